import java.util.function.Consumer;
import java.util.function.ToLongFunction;

/** Which refusal comes first, and that refused calls change nothing else. */
final class Refusals {
    private static final int NONE = CampWeek.NONE;
    private static final int BAD = CampWeek.BAD;
    private static final int NOT = CampWeek.NOT;
    private static final int FULL = CampWeek.FULL;
    private static final int NULL = -11;
    private static final int INDEX = -12;
    private static final int CAST = -13;
    private static final int STORE = -14;
    private static final int SIZE = -15;
    private static final int LEAST_INT = Integer.MIN_VALUE;

    /** Makes calls that are refused on objects of one kind, and compares their states with those before. */
    private static final class Refused {
        private final Check check;
        private final Consumer<CampWeek> made;
        private final State before;

        Refused(Check check, Consumer<CampWeek> made) {
            this.check = check;
            this.made = made;
            before = new State(made);
        }

        void due(String call, long want, ToLongFunction<CampWeek> refused) {
            due(call, want, want <= NULL && want >= SIZE ? -10 - want : before.latestFinding(), refused);
        }

        void due(String call, long want, long finding, ToLongFunction<CampWeek> refused) {
            CampWeek x = new CampWeek();
            made.accept(x);
            check.due(call, refused.applyAsLong(x), want);
            State after = new State(y -> {
                made.accept(y);
                refused.applyAsLong(y);
            });
            check.due(call + " and count(7)", after.latestFinding(), finding);
            String changed = after.differsFrom(before);
            if (changed != null) {
                check.fault("the refused " + call + " changes " + changed);
            }
        }
    }

    private Refusals() {
    }

    static void all(Sentences s) {
        s.say("The public face", "NONE = -1, BAD = -2, NOT = -3, FULL = -4", c -> {
            c.due("NONE", NONE, -1);
            c.due("BAD", BAD, -2);
            c.due("NOT", NOT, -3);
            c.due("FULL", FULL, -4);
        });
        s.say("7", "Refusals, the first that fits: BAD -2 (a number not as told, no such thing), NOT -3, "
                + "FULL -4 (as told), FINDINGS.", c -> {
            badFirst(c);
            notBeforeFull(c);
            findingsInOrder(c);
        });
        s.say("7", "They change nothing else.", c -> {
            Refused busy = new Refused(c, Refusals::makeBusy);
            hutsAndParties(busy);
            sittings(busy);
            shows(busy);
            children(busy);
            lists(busy);
            sheets(busy);
            gets(busy);
            new Refused(c, x -> {
                makeBusy(x);
                x.seats(0, 0);
            }).due("cook without a way", NOT, x -> x.cook(0, 0, 0));
            full(new Refused(c, Refusals::makeFull));
        });
    }

    /** A camp in which each call finds something, and most can be refused. */
    private static void makeBusy(CampWeek x) {
        int[][] huts = {{0, 4}, {0, 2}, {1, 4}, {2, 8}};
        for (int[] hut : huts) {
            x.hut(hut[0], hut[1]);
        }
        int[][] parties = {{2, 1, 0, 3, NONE}, {4, 2, 1, 2, 3}, {3, 1, 0, 0, 3}, {4, 4, 0, 0, NONE}, {8, 0, 0, 9, 0},
            {8, 2, 0, 0, NONE}};
        for (int[] p : parties) {
            x.party(p[0], p[1], p[2], p[3], p[4]);
        }
        for (int party : new int[] {0, 2, 1, 3, 4}) {
            x.lodge(party);
        }
        x.tell(0, 3, 1);
        x.tell(1, 2, 0);
        x.seats(9, 9);
        x.more(20);
        x.cook(0, 0, 5);
        x.cook(1, 1, 3);
        makeShows(x);
        int[][] childrenOfAge = {{1, 4}, {1, 7}, {3, 4}, {3, 12}};
        for (int[] child : childrenOfAge) {
            x.child(child[0], child[1]);
        }
        x.group(0, 0, 5, 1);
        x.group(1, 6, 9, 3);
        x.hand(0);
        x.list(0, 0, 20);
        x.list(10, 5, 60);
        x.list(10, 2, 40);
    }

    private static void makeShows(CampWeek x) {
        x.hall(0, 6);
        x.hall(1, 3);
        x.show(0, 8, NONE);
        x.show(NONE, 8, 1);
        x.show(NONE, 9, NONE);
        x.show(1, 0, NONE);
        int[][] wishes = {{0, 0}, {0, 1}, {1, 1}, {2, 0}, {3, 0}, {4, 0}, {4, 2}};
        for (int[] wish : wishes) {
            x.wish(wish[0], wish[1]);
        }
        x.sheet(0, 0, 20);
        x.put(0, 0, 8, 1);
        x.put(0, 0, 3, 7);
        x.sheet(1, 1, 3);
        x.put(1, 1, 2, -5);
        x.sheet(2, 2, 0);
    }

    /** A camp that has all that it can have. */
    private static void makeFull(CampWeek x) {
        for (int hut = 0; hut < 30; hut++) {
            x.hut(hut % 6, 1 + hut % 8);
        }
        for (int party = 0; party < 24; party++) {
            x.party(8, 8, 0, 9, party % 11 - 1);
        }
        for (int show = 0; show < 12; show++) {
            x.show(show % 7 - 1, show % 9, NONE);
        }
        for (int show = 0; show < 6; show++) {
            x.wish(0, show);
        }
        for (int child = 0; child < 40; child++) {
            x.child(child / 8, child % 18);
        }
        for (int line = 0; line < 40; line++) {
            x.cook(line % 10, line % 2, line);
        }
        for (int line = 0; line < 30; line++) {
            x.list(line, line, line);
        }
    }

    private static void badFirst(Check c) {
        CampWeek x = new CampWeek();
        makeFull(x);
        c.due("hut, before FULL", x.hut(6, 1), BAD);
        c.due("party, before FULL", x.party(0, 0, 0, 0, 0), BAD);
        c.due("show, before FULL", x.show(0, 0, 0), BAD);
        c.due("wish, before FULL", x.wish(0, 0), BAD);
        c.due("child, before FULL", x.child(5, 18), BAD);
        c.due("child of no party, before FULL", x.child(24, 5), BAD);
        c.due("cook, before FULL", x.cook(0, 0, 501), BAD);
        c.due("list, before FULL", x.list(0, 0, 101), BAD);
        CampWeek y = new CampWeek();
        makeBusy(y);
        c.due("tell, before NOT", y.tell(0, 1, 3), BAD);
        c.due("group, before NOT", y.group(0, 0, 6, 1), BAD);
        c.due("fetch by no party, before NOT", y.fetch(1, 6), BAD);
        y.seats(0, 0);
        c.due("cook, before NOT", y.cook(0, 0, 501), BAD);
        c.due("cook for no sitting, before NOT", y.cook(0, 2, 0), BAD);
        c.due("sheet, before SIZE", y.sheet(4, 0, -1), BAD);
        c.due("sheet of no form, before SIZE", y.sheet(0, 3, -1), BAD);
        c.due("put of no form, before NULL", y.put(3, 3, 0, 0), BAD);
        c.due("copy to no sheet, before NULL", y.copy(3, 0, 4, 0, 1), BAD);
        c.due("copy from no sheet, before NULL", y.copy(-1, 0, 3, 0, 1), BAD);
        c.due("none of them is a finding", y.count(7), 0);
    }

    private static void notBeforeFull(Check c) {
        CampWeek x = new CampWeek();
        makeFull(x);
        x.lodge(0);
        x.seats(0, 0);
        c.due("party 0 has a hut", x.about(0, 5), 7);
        c.due("cook, no way and a full book", x.cook(0, 0, 0), NOT);
        CampWeek y = new CampWeek();
        makeBusy(y);
        c.due("hand, it is in it and that has its MOST", y.hand(0), NOT);
        c.due("hand, that has its MOST", y.hand(2), FULL);
    }

    private static void findingsInOrder(Check c) {
        CampWeek x = new CampWeek();
        makeBusy(x);
        c.due("put: NULL before CAST and INDEX", x.put(3, 0, 60, 0), NULL);
        c.due("put: CAST before INDEX", x.put(0, 1, 60, 0), CAST);
        x.get(3, 0, 60);
        c.due("get: NULL before CAST and INDEX", x.count(7), 1);
        x.get(0, 1, 60);
        c.due("get: CAST before INDEX", x.count(7), 3);
        c.due("copy: NULL before STORE and INDEX", x.copy(3, -1, 0, 0, 1), NULL);
        c.due("copy: NULL before STORE and INDEX", x.copy(0, -1, 3, 0, 1), NULL);
        c.due("copy: STORE before INDEX", x.copy(0, -1, 1, 0, 1), STORE);
    }

    private static void hutsAndParties(Refused busy) {
        busy.due("hut(6, 1)", BAD, x -> x.hut(6, 1));
        busy.due("hut(0, 9)", BAD, x -> x.hut(0, 9));
        busy.due("party(9, 0, 0, 0, 0)", BAD, x -> x.party(9, 0, 0, 0, 0));
        busy.due("party(3, 4, 0, 0, 0)", BAD, x -> x.party(3, 4, 0, 0, 0));
        busy.due("party(1, 0, 3, 2, 0)", BAD, x -> x.party(1, 0, 3, 2, 0));
        busy.due("party(1, 0, 0, 10, 0)", BAD, x -> x.party(1, 0, 0, 10, 0));
        busy.due("party(1, 0, 0, 0, 10)", BAD, x -> x.party(1, 0, 0, 0, 10));
        busy.due("tell(0, 0, 1)", BAD, x -> x.tell(0, 0, 1));
        busy.due("tell(0, 6, 1)", BAD, x -> x.tell(0, 6, 1));
        busy.due("tell(0, 5, 3)", BAD, x -> x.tell(0, 5, 3));
        busy.due("tell(0, 1, 1)", NOT, x -> x.tell(0, 1, 1));
        busy.due("lodge(6)", BAD, x -> x.lodge(6));
        busy.due("lodge(0)", NOT, x -> x.lodge(0));
        busy.due("lodge(5)", NONE, x -> x.lodge(5));
        busy.due("leave(6)", BAD, x -> x.leave(6));
        busy.due("leave(5)", NOT, x -> x.leave(5));
        busy.due("about(6, 0)", BAD, x -> x.about(6, 0));
        busy.due("about(0, 6)", BAD, x -> x.about(0, 6));
        busy.due("in(4, 0)", BAD, x -> x.in(4, 0));
        busy.due("in(0, 10)", BAD, x -> x.in(0, 10));
        busy.due("empty(10)", BAD, x -> x.empty(10));
    }

    private static void sittings(Refused busy) {
        busy.due("seats(201, 0)", BAD, x -> x.seats(201, 0));
        busy.due("seats(0, 201)", BAD, x -> x.seats(0, 201));
        busy.due("seats(0, -1)", BAD, x -> x.seats(0, -1));
        busy.due("apart(10)", BAD, x -> x.apart(10));
        busy.due("sits(0, 10)", BAD, x -> x.sits(0, 10));
        busy.due("sits(6, 0)", BAD, x -> x.sits(6, 0));
        busy.due("more(51)", BAD, x -> x.more(51));
        busy.due("more(-1)", BAD, x -> x.more(-1));
        busy.due("foretell(10, 0)", BAD, x -> x.foretell(10, 0));
        busy.due("foretell(0, 2)", BAD, x -> x.foretell(0, 2));
        busy.due("cook(10, 0, 0)", BAD, x -> x.cook(10, 0, 0));
        busy.due("cook(0, 2, 0)", BAD, x -> x.cook(0, 2, 0));
        busy.due("cook(0, 0, 501)", BAD, x -> x.cook(0, 0, 501));
        busy.due("line(2, 0)", BAD, x -> x.line(2, 0));
        busy.due("line(0, 5)", BAD, x -> x.line(0, 5));
    }

    private static void shows(Refused busy) {
        busy.due("hall(6, 1)", BAD, x -> x.hall(6, 1));
        busy.due("hall(0, 501)", BAD, x -> x.hall(0, 501));
        busy.due("show(0, 8, 1)", BAD, x -> x.show(0, 8, 1));
        busy.due("show(6, 0, -1)", BAD, x -> x.show(6, 0, NONE));
        busy.due("show(-1, 40, -1)", BAD, x -> x.show(NONE, 40, NONE));
        busy.due("show(-1, 0, 6)", BAD, x -> x.show(NONE, 0, 6));
        busy.due("wish(0, 0)", BAD, x -> x.wish(0, 0));
        busy.due("wish(6, 0)", BAD, x -> x.wish(6, 0));
        busy.due("wish(0, 4)", BAD, x -> x.wish(0, 4));
        busy.due("wet(40)", BAD, x -> x.wet(40));
        busy.due("where(4)", BAD, x -> x.where(4));
        busy.due("goes(6, 0, 0)", BAD, x -> x.goes(6, 0, 0));
        busy.due("goes(0, 10, 0)", BAD, x -> x.goes(0, 10, 0));
        busy.due("goes(0, 0, 40)", BAD, x -> x.goes(0, 0, 40));
        busy.due("turned(6, 0, 0)", BAD, x -> x.turned(6, 0, 0));
        busy.due("turned(0, 10, 0)", BAD, x -> x.turned(0, 10, 0));
        busy.due("turned(0, 0, 40)", BAD, x -> x.turned(0, 0, 40));
        busy.due("crowd(4, 0)", BAD, x -> x.crowd(4, 0));
        busy.due("crowd(0, 10)", BAD, x -> x.crowd(0, 10));
    }

    private static void children(Refused busy) {
        busy.due("group(4, 10, 11, 1)", BAD, x -> x.group(4, 10, 11, 1));
        busy.due("group(2, 5, 5, 1)", BAD, x -> x.group(2, 5, 5, 1));
        busy.due("group(2, 12, 11, 1)", BAD, x -> x.group(2, 12, 11, 1));
        busy.due("group(2, 10, 10, 21)", BAD, x -> x.group(2, 10, 10, 21));
        busy.due("group(1, 5, 9, 1)", BAD, x -> x.group(1, 5, 9, 1));
        busy.due("group(0, 0, 4, 2)", NOT, x -> x.group(0, 0, 4, 2));
        busy.due("child(6, 4)", BAD, x -> x.child(6, 4));
        busy.due("child(1, 18)", BAD, x -> x.child(1, 18));
        busy.due("child(1, 3)", FULL, x -> x.child(1, 3));
        busy.due("child(4, 3)", FULL, x -> x.child(4, 3));
        busy.due("hand(4)", BAD, x -> x.hand(4));
        busy.due("hand(3)", NOT, x -> x.hand(3));
        busy.due("hand(0)", NOT, x -> x.hand(0));
        busy.due("hand(2)", FULL, x -> x.hand(2));
        busy.due("fetch(4, 1)", BAD, x -> x.fetch(4, 1));
        busy.due("fetch(0, 6)", BAD, x -> x.fetch(0, 6));
        busy.due("fetch(1, 1)", NOT, x -> x.fetch(1, 1));
        busy.due("fetch(0, 3)", NOT, x -> x.fetch(0, 3));
        busy.due("with(4)", BAD, x -> x.with(4));
    }

    private static void lists(Refused busy) {
        busy.due("list(1000, 0, 0)", BAD, x -> x.list(1000, 0, 0));
        busy.due("list(0, 100, 0)", BAD, x -> x.list(0, 100, 0));
        busy.due("list(0, 0, 101)", BAD, x -> x.list(0, 0, 101));
        busy.due("pays(1000, 0)", BAD, x -> x.pays(1000, 0));
        busy.due("pays(0, 1000)", BAD, x -> x.pays(0, 1000));
    }

    private static void sheets(Refused busy) {
        busy.due("sheet(4, 0, 1)", BAD, x -> x.sheet(4, 0, 1));
        busy.due("sheet(0, 3, 1)", BAD, x -> x.sheet(0, 3, 1));
        busy.due("sheet(0, 0, 61)", BAD, x -> x.sheet(0, 0, 61));
        busy.due("sheet(0, 2, -1)", SIZE, x -> x.sheet(0, 2, -1));
        busy.due("lose(4)", BAD, x -> x.lose(4));
        busy.due("lose(3)", NULL, x -> x.lose(3));
        busy.due("put(4, 0, 0, 1)", BAD, x -> x.put(4, 0, 0, 1));
        busy.due("put(0, 3, 8, 9)", BAD, x -> x.put(0, 3, 8, 9));
        busy.due("put(3, 0, 0, 1)", NULL, x -> x.put(3, 0, 0, 1));
        busy.due("put(0, 1, 8, 9)", CAST, x -> x.put(0, 1, 8, 9));
        busy.due("put(0, 0, 20, 9)", INDEX, x -> x.put(0, 0, 20, 9));
        busy.due("put(0, 0, -1, 9)", INDEX, x -> x.put(0, 0, -1, 9));
        busy.due("put(1, 1, -1, 9)", INDEX, x -> x.put(1, 1, -1, 9));
        busy.due("put(1, 1, 3, 9)", INDEX, x -> x.put(1, 1, 3, 9));
        busy.due("copy(4, 8, 0, 0, 1)", BAD, x -> x.copy(4, 8, 0, 0, 1));
        busy.due("copy(0, 8, 3, 0, 1)", NULL, x -> x.copy(0, 8, 3, 0, 1));
        busy.due("copy(3, 0, 0, 8, 1)", NULL, x -> x.copy(3, 0, 0, 8, 1));
        busy.due("copy(0, 8, 1, 0, 1)", STORE, x -> x.copy(0, 8, 1, 0, 1));
        busy.due("copy(0, 8, 0, 15, 6)", INDEX, x -> x.copy(0, 8, 0, 15, 6));
        busy.due("copy(0, 15, 0, 8, 6)", INDEX, x -> x.copy(0, 15, 0, 8, 6));
        busy.due("copy(0, -1, 0, 0, 1)", INDEX, x -> x.copy(0, -1, 0, 0, 1));
        busy.due("copy(0, 8, 0, -1, 1)", INDEX, x -> x.copy(0, 8, 0, -1, 1));
        busy.due("copy(0, 8, 0, 0, -1)", INDEX, x -> x.copy(0, 8, 0, 0, -1));
        busy.due("count(8)", BAD, x -> x.count(8));
    }

    private static void gets(Refused busy) {
        busy.due("get(4, 0, 0)", LEAST_INT, 0, x -> x.get(4, 0, 0));
        busy.due("get(0, 3, 0)", LEAST_INT, 0, x -> x.get(0, 3, 0));
        busy.due("get(3, 0, 0)", LEAST_INT, 1, x -> x.get(3, 0, 0));
        busy.due("get(0, 0, 20)", LEAST_INT, 2, x -> x.get(0, 0, 20));
        busy.due("get(0, 0, -1)", LEAST_INT, 2, x -> x.get(0, 0, -1));
        busy.due("get(0, 1, 8)", LEAST_INT, 3, x -> x.get(0, 1, 8));
    }

    private static void full(Refused full) {
        full.due("hut(0, 1)", FULL, x -> x.hut(0, 1));
        full.due("party(1, 0, 0, 0, 0)", FULL, x -> x.party(1, 0, 0, 0, 0));
        full.due("show(0, 0, -1)", FULL, x -> x.show(0, 0, NONE));
        full.due("wish(0, 6)", FULL, x -> x.wish(0, 6));
        full.due("child(5, 3)", FULL, x -> x.child(5, 3));
        full.due("cook(0, 0, 0)", FULL, x -> x.cook(0, 0, 0));
        full.due("list(0, 0, 0)", FULL, x -> x.list(0, 0, 0));
    }
}
