/** Counts the answers that are not as due, prints them, and ends the program by them. */
final class Checks {
    private static final int MOST_PRINTED = 40;
    private int wrong = 0;
    private int made = 0;
    private String part = "";

    void part(String name) {
        part = name;
    }

    void due(String call, long got, long want) {
        made++;
        if (got != want) {
            wrong++;
            if (wrong <= MOST_PRINTED) {
                System.out.println(part + ": " + call + " answered " + got + ", due is " + want);
            }
        }
    }

    void holds(String what, boolean so) {
        due(what, so ? 1 : 0, 1);
    }

    void fraction(String call, long above, long below, long wantAbove, long wantBelow) {
        due(call + " above the line", above, wantAbove);
        due(call + " below the line", below, wantBelow);
    }

    void prints(BundlesOfBids x, String want) {
        due("printed(-1) of " + want, x.printed(-1), want.length());
        for (int i = 0; i < want.length(); i++) {
            due("printed(" + i + ") of " + want, x.printed(i), want.charAt(i));
        }
        due("printed behind " + want, x.printed(want.length()), -9);
        due("printed far behind " + want, x.printed(Integer.MAX_VALUE), -9);
    }

    boolean isClean() {
        return wrong == 0;
    }

    void end(String name) {
        System.out.println(name + ": " + made + " checks, " + wrong + " wrong");
        if (wrong != 0 || made == 0) {
            System.exit(1);
        }
    }
}
