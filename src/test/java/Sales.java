/** Sales told as texts. */
final class Sales {
    private Sales() {
    }

    static void send(BundlesOfBids x, String text) {
        for (int i = 0; i < text.length(); i++) {
            x.letter(text.charAt(i));
        }
    }

    static int hear(BundlesOfBids x, String text) {
        send(x, text);
        return x.auction();
    }

    /** A new object that heard a text, which has to be an auction. */
    static BundlesOfBids told(String text) {
        BundlesOfBids x = new BundlesOfBids();
        int statements = hear(x, text);
        if (statements < 1) {
            throw new IllegalArgumentException("'" + text + "' is no auction: " + statements);
        }
        return x;
    }
}
