import java.util.List;

/** Calls of the face by their names, for tests whose calls stand in tables. */
final class Calls {
    static final String[] NAMES = {"letter", "auction", "bids", "turns", "price", "kind", "keep", "bid",
        "bidder", "may", "winners", "rank", "item", "rival", "of", "pays", "blocks", "lifts", "group", "envy",
        "gain", "without", "least", "tight", "missing", "mean", "printed", "whatIs", "row", "judge", "clear",
        "lots", "image", "on", "count"};

    private Calls() {
    }

    static int place(String name) {
        return List.of(NAMES).indexOf(name);
    }

    static long of(BundlesOfBids x, String name, int p, int q, int r) {
        switch (name) {
            case "letter": return x.letter(p);
            case "auction": return x.auction();
            case "bids": return x.bids(p, q, r);
            case "turns": return x.turns(p);
            case "price": return x.price(p, q);
            case "kind": return x.kind(p, q, r);
            case "keep": return x.keep(p, q);
            case "bid": return x.bid(p, q);
            case "bidder": return x.bidder(p, q);
            case "may": return x.may(p);
            case "winners": return x.winners(p);
            case "rank": return x.rank(p, q);
            case "item": return x.item(p, q);
            case "rival": return x.rival(p, q);
            case "of": return x.of(p, q);
            case "pays": return x.pays(p, q);
            case "blocks": return x.blocks(p, q);
            case "lifts": return x.lifts();
            case "group": return x.group(p, q);
            case "envy": return x.envy(p, q);
            case "gain": return x.gain(p);
            case "without": return x.without(p);
            case "least": return x.least(p);
            case "tight": return x.tight();
            case "missing": return x.missing(p, q, r);
            case "mean": return x.mean(p, q);
            case "printed": return x.printed(p);
            case "whatIs": return x.whatIs(p, q);
            case "row": return x.row(p);
            case "judge": return x.judge(p);
            case "clear": return x.clear();
            case "lots": return x.lots(p, q, r);
            case "image": return x.image();
            case "on": return x.on();
            default: return x.count(p);
        }
    }

    static long of(Model model, String name, int p, int q, int r) {
        switch (name) {
            case "letter": return model.letter(p);
            case "auction": return model.auction();
            case "bids": return model.bids(p, q, r);
            case "turns": return model.turns(p);
            case "price": return model.price(p, q);
            case "kind": return model.kind(p, q, r);
            case "keep": return model.keep(p, q);
            case "bid": return model.bid(p, q);
            case "bidder": return model.bidder(p, q);
            case "may": return model.may(p);
            case "winners": return model.winners(p);
            case "rank": return model.rank(p, q);
            case "item": return model.item(p, q);
            case "rival": return model.rival(p, q);
            case "of": return model.of(p, q);
            case "pays": return model.pays(p, q);
            case "blocks": return model.blocks(p, q);
            case "lifts": return model.lifts();
            case "group": return model.group(p, q);
            case "envy": return model.envy(p, q);
            case "gain": return model.gain(p);
            case "without": return model.without(p);
            case "least": return model.least(p);
            case "tight": return model.tight();
            case "missing": return model.missing(p, q, r);
            case "mean": return model.mean(p, q);
            case "printed": return model.printed(p);
            case "whatIs": return model.whatIs(p, q);
            case "row": return model.row(p);
            case "judge": return model.judge(p);
            case "clear": return model.clear();
            case "lots": return model.lots(p, q, r);
            case "image": return model.image();
            case "on": return model.on();
            default: return model.count(p);
        }
    }
}
