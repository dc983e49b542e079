/** Asks a call of the class by its name; arguments that it doesn't take are left out. */
final class Calls {
    static final String[] NAMES = {"type", "clear", "town", "train", "group", "votes", "hour", "holds", "canvasses",
        "fog", "rugs", "undo", "now", "plan", "power", "laws", "odds", "hears", "forget", "likings", "ask", "mark",
        "keep", "back", "count", "trace"};

    private Calls() {
    }

    static long answer(StrangerVotes x, String call, int a, int b, int c) {
        switch (call) {
            case "type": return x.type(a);
            case "clear": return x.clear();
            case "town": return x.town();
            case "train": return x.train(a, b);
            case "group": return x.group(a, b);
            case "votes": return x.votes(a, b);
            case "hour": return x.hour();
            case "holds": return x.holds(a);
            case "canvasses": return x.canvasses(a, b);
            case "fog": return x.fog(a);
            case "rugs": return x.rugs(a);
            case "undo": return x.undo();
            case "now": return x.now(a);
            case "plan": return x.plan(a, b);
            case "power": return x.power(a);
            case "laws": return x.laws(a);
            case "odds": return x.odds(a, b, c);
            case "hears": return x.hears(a, b);
            case "forget": return x.forget();
            case "likings": return x.likings(a);
            case "ask": return x.ask();
            case "mark": return x.mark(a, b);
            case "keep": return x.keep(a);
            case "back": return x.back(a);
            case "count": return x.count(a);
            case "trace": return x.trace();
            default: throw new IllegalArgumentException(call);
        }
    }
}
