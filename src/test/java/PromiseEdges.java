import java.math.BigInteger;

/** The boundaries that the promises name, 1 to 39. */
final class PromiseEdges {
    private static final int NONE = CampWeek.NONE;
    private static final int BAD = CampWeek.BAD;
    private static final int NOT = CampWeek.NOT;
    private static final int FULL = CampWeek.FULL;
    private static final int NULL = -11;
    private static final int INDEX = -12;
    private static final int CAST = -13;
    private static final int STORE = -14;
    private static final int SIZE = -15;
    private static final int LEAST_INT = Integer.MIN_VALUE;
    private static final int MOST_INT = Integer.MAX_VALUE;

    private PromiseEdges() {
    }

    static void all(Sentences s) {
        newObject(s);
        hutsAndParties(s);
        tell(s);
        lodge(s);
        moved(s);
        leave(s);
        about(s);
        inAndEmpty(s);
        seats(s);
        apartAndSits(s);
        more(s);
        foretell(s);
        cook(s);
        line(s);
        hall(s);
        show(s);
        wish(s);
        wetAndWhere(s);
        goes(s);
        turned(s);
        crowd(s);
        group(s);
        child(s);
        hand(s);
        fetch(s);
        with(s);
        list(s);
        pays(s);
        sheet(s);
        lose(s);
        put(s);
        get(s);
        copy(s);
        copyBeyond(s);
        count(s);
        digest(s);
    }

    private static void newObject(Sentences s) {
        s.say("Promise 1", "No HUTS, PARTIES, SHOWS, CHILDREN, lists; all SHEETS are LOST.", c -> {
            CampWeek x = new CampWeek();
            for (int what = 0; what <= 7; what++) {
                c.due("count(" + what + ")", x.count(what), 0);
            }
            c.due("no hut", x.in(0, 0), BAD);
            c.due("no party", x.about(0, 0), BAD);
            c.due("no show", x.where(0), BAD);
            c.due("no child", x.with(0), BAD);
            c.due("no line", x.line(0, 0), BAD);
            c.due("no list", x.pays(999, 999), 0);
            for (int sheet = 0; sheet <= 3; sheet++) {
                c.due("lose(" + sheet + ")", x.lose(sheet), NULL);
            }
        });
    }

    private static void hutsAndParties(Sentences s) {
        s.say("Promise 2", "BAD", c -> {
            c.range(0, 5, 0, row -> new CampWeek().hut(row, 8));
            c.range(1, 8, 0, beds -> new CampWeek().hut(5, beds));
        });
        s.say("Promise 2", "FULL", c -> {
            CampWeek x = Camps.ofHuts(29, 8);
            c.due("the 30th", x.hut(5, 8), 29);
            c.due("the 31st", x.hut(5, 8), FULL);
            c.due("and again", x.hut(0, 1), FULL);
        });
        s.say("Promise 3", "A PARTY more, not LODGED", c -> {
            CampWeek x = Camps.add(Camps.ofHuts(1, 8), 1);
            c.due("its hut", x.about(0, 5), NONE);
            c.due("nobody is lodged", x.count(2), 0);
        });
        s.say("Promise 3", "BAD", c -> {
            c.range(1, 8, 0, size -> new CampWeek().party(size, 0, 9, 9, 9));
            c.range(0, 8, 0, children -> new CampWeek().party(8, children, 0, 9, NONE));
            c.range(0, 9, 0, from -> new CampWeek().party(1, 0, from, 9, 0));
            c.range(0, 9, 0, to -> new CampWeek().party(1, 0, 0, to, 0));
            c.range(-1, 9, 0, table -> new CampWeek().party(1, 0, 0, 0, table));
            c.due("from above to", new CampWeek().party(1, 0, 1, 0, 0), BAD);
            c.due("children above size", new CampWeek().party(1, 2, 0, 0, 0), BAD);
        });
        s.say("Promise 3", "FULL", c -> {
            CampWeek x = Camps.full(1);
            c.due("the 25th", x.party(8, 8, 0, 9, 9), FULL);
            c.due("and again", x.party(1, 0, 0, 0, NONE), FULL);
        });
    }

    private static void tell(Sentences s) {
        s.say("Promise 4", "or neither (2): what they were", c -> {
            CampWeek x = Camps.add(new CampWeek(), 1, 1, 1);
            int[] kinds = {2, 0, 0, 1, 1, 2, 1, 0, 2};
            int was = 2;
            for (int i = 0; i < kinds.length; i++) {
                int now = i % 2 == 0 ? x.tell(0, 1, kinds[i]) : x.tell(1, 0, kinds[i]);
                c.due("telling " + i, now, was);
                was = kinds[i];
            }
            c.due("other two", x.tell(0, 2, 0), 2);
            c.due("others", x.tell(1, 2, 0), 2);
        });
        s.say("Promise 4", "BAD: also one twice", c -> {
            c.due("the first and the last", Camps.add(new CampWeek(), 1, 1, 1).tell(0, 2, 0), 2);
            c.outside(0, 2, BAD, a -> Camps.add(new CampWeek(), 1, 1, 1).tell(a, 1, 0));
            c.outside(0, 2, BAD, b -> Camps.add(new CampWeek(), 1, 1, 1).tell(1, b, 0));
            c.range(0, 2, 2, kind -> Camps.add(new CampWeek(), 1, 1).tell(0, 1, kind));
            c.due("one twice", Camps.add(new CampWeek(), 1, 1).tell(1, 1, 2), BAD);
            c.due("no parties", new CampWeek().tell(0, 1, 0), BAD);
        });
        s.say("Promise 4", "NOT: APART, and they are LODGED in one ROW in a WEEK that both have", c -> {
            int[][] weeksAndAnswer = {{0, 2, 2}, {0, 3, NOT}, {4, 4, NOT}, {0, 9, NOT}, {5, 9, NOT}, {6, 9, 2}};
            for (int[] w : weeksAndAnswer) {
                CampWeek x = Camps.ofHuts(2, 1);
                x.party(1, 0, 3, 5, NONE);
                x.party(1, 0, w[0], w[1], NONE);
                x.lodge(0);
                x.lodge(1);
                c.due("APART, weeks " + w[0] + " to " + w[1], x.tell(0, 1, 1), w[2]);
                c.due("the other way", x.tell(1, 0, 1), w[2] == NOT ? NOT : 1);
                c.due("NEXT is no matter", x.tell(0, 1, 0), w[2] == NOT ? 2 : 1);
            }
            CampWeek y = Camps.add(Camps.ofRows(1, 1), 1, 1);
            y.lodge(0);
            c.due("one of them is not lodged", y.tell(0, 1, 1), 2);
            y.lodge(1);
            c.due("in two rows", y.tell(0, 1, 1), 1);
        });
    }

    private static void lodge(Sentences s) {
        s.say("Promise 5", "NONE: none.", c -> {
            c.due("no huts", Camps.add(new CampWeek(), 1).lodge(0), NONE);
            c.due("too few beds", Camps.add(Camps.ofHuts(3, 7), 8).lodge(0), NONE);
            CampWeek x = Camps.add(Camps.ofHuts(1, 8), 1, 1);
            x.lodge(0);
            c.due("no free one", x.lodge(1), NONE);
            c.due("it stays not lodged", x.about(1, 5), NONE);
        });
        s.say("Promise 5", "BAD", c -> {
            c.range(0, 1, 0, party -> Camps.add(Camps.ofHuts(1, 8), 1, 1).lodge(party));
            c.due("no parties", Camps.ofHuts(1, 8).lodge(0), BAD);
        });
        s.say("Promise 5", "NOT: it is LODGED.", c -> {
            CampWeek x = Camps.with(1, 1);
            c.due("the first", x.lodge(0), NOT);
            c.due("the second", x.lodge(1), NOT);
            x.leave(0);
            c.due("after leaving", x.lodge(0), 0);
            c.due("and again", x.lodge(0), NOT);
        });
    }

    /** Party 0 has been moved out of hut 0 into hut 1, for party 1. */
    private static CampWeek withOneMoved() {
        CampWeek x = Camps.add(Camps.ofHuts(1, 2), 1, 2, 1);
        x.lodge(0);
        x.hut(1, 1);
        x.lodge(1);
        return x;
    }

    private static void moved(Sentences s) {
        s.say("Promise 6", "by the latest lodge() that found a HUT", c -> {
            CampWeek x = withOneMoved();
            c.due("party 0", x.moved(), 0);
            c.due("none found", x.lodge(2), NONE);
            c.due("party 0 still", x.moved(), 0);
            c.due("refused", x.lodge(0), NOT);
            c.due("refused", x.lodge(3), BAD);
            x.leave(0);
            c.due("party 0 after it left", x.moved(), 0);
            c.due("one found", x.lodge(2), 1);
            c.due("nobody", x.moved(), NONE);
        });
        s.say("Promise 6", "(NONE: nobody, before any)", c -> {
            CampWeek x = Camps.add(new CampWeek(), 1);
            c.due("before any", x.moved(), NONE);
            x.lodge(0);
            c.due("before any that found a hut", x.moved(), NONE);
            x.hut(0, 1);
            x.lodge(0);
            c.due("nobody", x.moved(), NONE);
        });
    }

    private static void leave(Sentences s) {
        s.say("Promise 7", "A PARTY is not LODGED any more: the HUT it had.", c -> {
            CampWeek x = Camps.with(1, 1);
            c.due("hut 1", x.leave(1), 1);
            c.due("its hut", x.about(1, 5), NONE);
            c.due("hut 1 is empty", x.in(1, 0), NONE);
            c.due("party 0 stays", x.about(0, 5), 0);
            c.due("one is lodged", x.count(2), 1);
        });
        s.say("Promise 7", "BAD", c -> {
            c.outside(0, 1, BAD, party -> Camps.with(1, 1).leave(party));
            c.due("no parties", new CampWeek().leave(0), BAD);
        });
        s.say("Promise 7", "NOT", c -> {
            CampWeek x = Camps.add(Camps.ofHuts(1, 1), 1);
            c.due("never lodged", x.leave(0), NOT);
            x.lodge(0);
            x.leave(0);
            c.due("left already", x.leave(0), NOT);
        });
    }

    private static void about(Sentences s) {
        s.say("Promise 8", "5 HUT (NONE)", c -> {
            CampWeek x = Camps.add(Camps.ofHuts(1, 1), 1);
            c.due("not lodged", x.about(0, 5), NONE);
            x.lodge(0);
            c.due("lodged", x.about(0, 5), 0);
            CampWeek y = withOneMoved();
            c.due("moved", y.about(0, 5), 1);
            c.due("for whom it was moved", y.about(1, 5), 0);
        });
        s.say("Promise 8", "BAD", c -> {
            CampWeek x = new CampWeek();
            x.party(8, 8, 8, 8, 8);
            x.party(8, 8, 8, 8, 8);
            c.range(0, 1, 8, party -> x.about(party, 0));
            c.outside(0, 5, BAD, what -> x.about(0, what));
            for (int what = 0; what <= 5; what++) {
                c.due("about(1, " + what + ")", x.about(1, what), what == 5 ? NONE : 8);
            }
        });
    }

    private static void inAndEmpty(Sentences s) {
        s.say("Promise 9", "NONE", c -> {
            CampWeek x = Camps.ofHuts(2, 1);
            x.party(1, 0, 3, 5, NONE);
            x.lodge(0);
            for (int week = 0; week <= 9; week++) {
                c.due("week " + week, x.in(0, week), week >= 3 && week <= 5 ? 0 : NONE);
                c.due("another hut", x.in(1, week), NONE);
            }
        });
        s.say("Promise 9", "BAD", c -> {
            CampWeek x = Camps.ofHuts(2, 1);
            c.range(0, 1, NONE, hut -> x.in(hut, 0));
            c.range(0, 9, NONE, week -> x.in(1, week));
            c.due("no huts", new CampWeek().in(0, 0), BAD);
        });
        s.say("Promise 10", "BEDS of all HUTS without a PARTY in a WEEK", c -> {
            CampWeek x = Camps.ofRows(8, 4, 1);
            x.party(1, 0, 3, 5, NONE);
            x.party(3, 0, 5, 6, NONE);
            c.due("all", x.empty(5), 13);
            x.lodge(0);
            x.lodge(1);
            int[] want = {13, 13, 13, 12, 12, 8, 9, 13, 13, 13};
            for (int week = 0; week <= 9; week++) {
                c.due("week " + week, x.empty(week), want[week]);
            }
            c.due("no huts", new CampWeek().empty(0), 0);
        });
        s.say("Promise 10", "BAD", c -> c.range(0, 9, 0, week -> new CampWeek().empty(week)));
    }

    private static void seats(Sentences s) {
        s.say("Promise 11", "SEATS of both SITTINGS (0 to 200): 1.", c -> {
            CampWeek x = Camps.full(8);
            c.due("200 and 200", x.seats(200, 200), 1);
            c.due("even", x.apart(0), 0);
            c.due("192 and 0", x.seats(192, 0), 1);
            c.due("all in sitting 0", x.sits(23, 0), 0);
            c.due("0 and 192", x.seats(0, 192), 1);
            c.due("all in sitting 1", x.sits(0, 0), 1);
        });
        s.say("Promise 11", "BAD", c -> {
            c.range(0, 200, 1, first -> new CampWeek().seats(first, 0));
            c.range(0, 200, 1, second -> new CampWeek().seats(200, second));
        });
    }

    private static void apartAndSits(Sentences s) {
        s.say("Promise 12", "NONE: there is no way", c -> {
            CampWeek x = Camps.with(8);
            x.seats(7, 7);
            c.due("seven seats for eight", x.apart(0), NONE);
            x.seats(7, 8);
            c.due("eight", x.apart(0), 8);
            x.seats(0, 0);
            c.due("a week with nobody", x.apart(1), 0);
        });
        s.say("Promise 12", "BAD", c -> c.range(0, 9, 0, week -> new CampWeek().apart(week)));
        s.say("Promise 13", "NONE: it is not there, or there is no way", c -> {
            CampWeek x = Camps.ofHuts(1, 8);
            x.party(8, 0, 3, 5, NONE);
            c.due("not lodged", x.sits(0, 3), NONE);
            x.lodge(0);
            for (int week = 0; week <= 9; week++) {
                c.due("week " + week, x.sits(0, week), week >= 3 && week <= 5 ? 0 : NONE);
            }
            x.seats(7, 7);
            c.due("no way", x.sits(0, 3), NONE);
            x.leave(0);
            c.due("left", x.sits(0, 3), NONE);
        });
        s.say("Promise 13", "BAD", c -> {
            CampWeek x = Camps.add(new CampWeek(), 1, 1);
            c.range(0, 1, NONE, party -> x.sits(party, 0));
            c.range(0, 9, NONE, week -> x.sits(1, week));
            c.due("no parties", new CampWeek().sits(0, 0), BAD);
        });
    }

    private static void more(Sentences s) {
        s.say("Promise 14", "PART of the kitchen: what it was.", c -> {
            CampWeek x = new CampWeek();
            c.due("at first", x.more(50), 10);
            c.due("refused", x.more(51), BAD);
            c.due("before", x.more(0), 50);
            c.due("before", x.more(7), 0);
            c.due("before", x.more(7), 7);
        });
        s.say("Promise 14", "BAD", c -> c.range(0, 50, 10, part -> new CampWeek().more(part)));
    }

    private static void foretell(Sentences s) {
        s.say("Promise 15", "NONE: there is no way", c -> {
            CampWeek x = Camps.with(4);
            x.seats(3, 3);
            c.due("sitting 0", x.foretell(0, 0), NONE);
            c.due("sitting 1", x.foretell(0, 1), NONE);
            c.due("a week with nobody", x.foretell(1, 0), 0);
            x.seats(4, 3);
            c.due("sitting 0 again", x.foretell(0, 0), 4);
            c.due("nobody in sitting 1", x.foretell(0, 1), 0);
        });
        s.say("Promise 15", "BAD", c -> {
            c.range(0, 9, 0, week -> new CampWeek().foretell(week, 0));
            c.range(0, 1, 0, sitting -> new CampWeek().foretell(9, sitting));
        });
    }

    private static void cook(Sentences s) {
        s.say("Promise 16", "so many come (0 to 500)", c -> {
            c.due("nobody", Camps.with(5).cook(0, 0, 0), 5);
            c.due("500", Camps.with(5).cook(0, 0, 500), -1495);
            c.due("-1", Camps.with(5).cook(0, 0, -1), BAD);
            c.due("501", Camps.with(5).cook(0, 0, 501), BAD);
        });
        s.say("Promise 16", "-1000 less the number, if it was SHORT by so many", c -> {
            CampWeek x = Camps.with(3);
            c.due("as many", x.cook(0, 0, 3), 0);
            c.due("one more", x.cook(0, 0, 4), -1001);
            c.due("for nobody", x.cook(0, 1, 1), -1001);
            c.due("for nobody, 500", x.cook(0, 1, 500), -1500);
        });
        s.say("Promise 16", "BAD", c -> {
            c.range(0, 9, 0, week -> new CampWeek().cook(week, 0, 0));
            c.range(0, 1, 0, sitting -> new CampWeek().cook(0, sitting, 0));
            c.outside(0, 500, BAD, come -> new CampWeek().cook(0, 0, come));
        });
        s.say("Promise 16", "NOT: there is no way", c -> {
            CampWeek x = Camps.with(2);
            x.seats(1, 1);
            c.due("no way", x.cook(0, 0, 0), NOT);
            c.due("no line of it", x.count(5), 0);
            c.due("a week with nobody", x.cook(1, 0, 0), 0);
        });
        s.say("Promise 16", "FULL", c -> {
            CampWeek x = new CampWeek();
            for (int line = 0; line < 39; line++) {
                x.cook(0, 0, 0);
            }
            c.due("the 40th", x.cook(0, 0, 0), 0);
            c.due("the 41st", x.cook(0, 0, 0), FULL);
            c.due("count(5)", x.count(5), 40);
        });
    }

    private static void line(Sentences s) {
        s.say("Promise 17", "BAD", c -> {
            CampWeek x = new CampWeek();
            c.due("no lines", x.line(0, 0), BAD);
            x.more(0);
            x.cook(0, 0, 0);
            x.cook(0, 0, 0);
            c.range(0, 1, 0, i -> x.line(i, 4));
            c.range(0, 4, 0, what -> x.line(1, what));
        });
    }

    private static void hall(Sentences s) {
        s.say("Promise 18", "ROOM of a HALL: what it was.", c -> {
            CampWeek x = new CampWeek();
            for (int hall = 0; hall <= 5; hall++) {
                c.due("at first", x.hall(hall, 500 - hall), 0);
            }
            c.due("refused", x.hall(0, 501), BAD);
            for (int hall = 0; hall <= 5; hall++) {
                c.due("before", x.hall(hall, 0), 500 - hall);
                c.due("before", x.hall(hall, 1), 0);
            }
        });
        s.say("Promise 18", "BAD", c -> {
            c.range(0, 5, 0, hall -> new CampWeek().hall(hall, 1));
            c.range(0, 500, 0, room -> new CampWeek().hall(0, room));
        });
    }

    private static void show(Sentences s) {
        s.say("Promise 19", "(NONE; of one in a HALL NONE)", c -> {
            for (int hall = 0; hall <= 5; hall++) {
                for (int wet = 0; wet <= 5; wet++) {
                    c.due("in hall " + hall + ", wet " + wet, new CampWeek().show(hall, 0, wet), BAD);
                }
                c.due("in hall " + hall, new CampWeek().show(hall, 0, NONE), 0);
                c.due("outdoors, wet " + hall, new CampWeek().show(NONE, 0, hall), 0);
            }
            c.due("outdoors", new CampWeek().show(NONE, 0, NONE), 0);
        });
        s.say("Promise 19", "BAD", c -> {
            c.range(-1, 5, 0, hall -> new CampWeek().show(hall, 39, NONE));
            c.range(0, 39, 0, hour -> new CampWeek().show(NONE, hour, 5));
            c.range(-1, 5, 0, wet -> new CampWeek().show(NONE, 39, wet));
        });
        s.say("Promise 19", "FULL", c -> {
            CampWeek x = new CampWeek();
            for (int show = 0; show < 11; show++) {
                x.show(NONE, show, 5);
            }
            c.due("the 12th", x.show(5, 39, NONE), 11);
            c.due("the 13th", x.show(5, 39, NONE), FULL);
            c.due("count(3)", x.count(3), 12);
        });
    }

    private static CampWeek withShows(CampWeek x, int shows) {
        for (int show = 0; show < shows; show++) {
            x.show(NONE, 0, NONE);
        }
        return x;
    }

    private static void wish(Sentences s) {
        s.say("Promise 20", "BAD: also one that is there", c -> {
            c.range(0, 1, 1, party -> withShows(Camps.with(1, 1), 2).wish(party, 0));
            c.range(0, 1, 1, show -> withShows(Camps.with(1, 1), 2).wish(1, show));
            c.due("no shows", Camps.with(1).wish(0, 0), BAD);
            c.due("no parties", withShows(new CampWeek(), 1).wish(0, 0), BAD);
            CampWeek x = withShows(Camps.with(1, 1), 6);
            for (int show = 0; show < 6; show++) {
                x.wish(0, show);
                for (int there = 0; there <= show; there++) {
                    c.due("wish for " + there + " again", x.wish(0, there), BAD);
                }
            }
            c.due("of another one", x.wish(1, 0), 1);
        });
        s.say("Promise 20", "FULL", c -> {
            CampWeek x = withShows(Camps.with(1, 1), 12);
            for (int show = 0; show < 6; show++) {
                c.due("wish " + show, x.wish(0, 11 - show), show + 1);
            }
            c.due("a seventh", x.wish(0, 0), FULL);
            c.due("of another one", x.wish(1, 0), 1);
        });
    }

    private static void wetAndWhere(Sentences s) {
        s.say("Promise 21", "BAD", c -> c.range(0, 39, 0, hour -> new CampWeek().wet(hour)));
        s.say("Promise 22", "6: OUTDOORS", c -> c.due("outdoors", withShows(new CampWeek(), 1).where(0), 6));
        s.say("Promise 22", "NONE: it falls out", c -> {
            CampWeek x = withShows(new CampWeek(), 1);
            x.show(NONE, 7, NONE);
            x.show(NONE, 8, NONE);
            x.sheet(0, 0, 40);
            x.put(0, 0, 1, 1);
            c.due("the hour before", x.where(0), 6);
            c.due("the last hour of the day", x.where(1), NONE);
            c.due("the next day", x.where(2), 6);
        });
        s.say("Promise 22", "BAD", c -> {
            c.range(0, 1, 6, show -> withShows(new CampWeek(), 2).where(show));
            c.due("no shows", new CampWeek().where(0), BAD);
        });
    }

    private static void goes(Sentences s) {
        s.say("Promise 23", "NONE (also if it is not there)", c -> {
            CampWeek x = Camps.ofHuts(1, 8);
            x.party(8, 0, 3, 5, NONE);
            withShows(x, 1);
            c.due("no wish", x.goes(0, 3, 0), NONE);
            x.wish(0, 0);
            c.due("not lodged", x.goes(0, 3, 0), NONE);
            x.lodge(0);
            for (int week = 0; week <= 9; week++) {
                c.due("week " + week, x.goes(0, week, 0), week >= 3 && week <= 5 ? 0 : NONE);
            }
            c.due("another hour", x.goes(0, 3, 1), NONE);
        });
        s.say("Promise 23", "BAD", c -> {
            CampWeek x = Camps.with(1, 1);
            c.range(0, 1, NONE, party -> x.goes(party, 0, 0));
            c.range(0, 9, NONE, week -> x.goes(1, week, 0));
            c.range(0, 39, NONE, hour -> x.goes(1, 0, hour));
            c.due("no parties", new CampWeek().goes(0, 0, 0), BAD);
        });
    }

    private static void turned(Sentences s) {
        s.say("Promise 24", "From how many SHOWS it is TURNED AWAY then.", c -> {
            CampWeek x = Camps.with(1);
            for (int hall = 0; hall < 6; hall++) {
                x.show(hall, 5, NONE);
                c.due("from " + hall, x.turned(0, 0, 5), hall);
                x.wish(0, hall);
            }
            c.due("from six", x.turned(0, 0, 5), 6);
            c.due("another hour", x.turned(0, 0, 4), 0);
            c.due("another week", x.turned(0, 1, 5), 0);
            x.hall(0, 1);
            c.due("from none", x.turned(0, 0, 5), 0);
        });
        s.say("Promise 24", "BAD", c -> {
            CampWeek x = Camps.with(1, 1);
            c.range(0, 1, 0, party -> x.turned(party, 0, 0));
            c.range(0, 9, 0, week -> x.turned(1, week, 0));
            c.range(0, 39, 0, hour -> x.turned(1, 0, hour));
            c.due("no parties", new CampWeek().turned(0, 0, 0), BAD);
        });
    }

    private static void crowd(Sentences s) {
        s.say("Promise 25", "How many people are in a SHOW in a WEEK.", c -> {
            CampWeek x = withShows(Camps.full(8), 2);
            c.due("nobody", x.crowd(0, 0), 0);
            for (int party = 0; party < 24; party++) {
                x.wish(party, 0);
                c.due("parties 0 to " + party, x.crowd(0, 0), 8 * party + 8);
            }
            c.due("another week", x.crowd(0, 1), 0);
            c.due("another show", x.crowd(1, 0), 0);
        });
        s.say("Promise 25", "BAD", c -> {
            CampWeek x = withShows(new CampWeek(), 2);
            c.range(0, 1, 0, show -> x.crowd(show, 0));
            c.range(0, 9, 0, week -> x.crowd(1, week));
            c.due("no shows", new CampWeek().crowd(0, 0), BAD);
        });
    }

    // ---- children

    /** A camp with groups 0 (ages 4 to 6, one child) and 2 (age 9, 20), and one party of eight children. */
    private static CampWeek withChildren(int... ages) {
        CampWeek x = new CampWeek();
        x.party(8, 8, 0, 0, NONE);
        x.party(8, 0, 0, 0, NONE);
        x.group(0, 4, 6, 1);
        x.group(2, 9, 9, 20);
        for (int age : ages) {
            x.child(0, age);
        }
        return x;
    }

    private static void group(Sentences s) {
        s.say("Promise 26", "(it has no ages at first)", c -> {
            CampWeek x = new CampWeek();
            x.party(8, 8, 0, 0, NONE);
            x.child(0, 0);
            x.child(0, 17);
            c.due("no group for age 0", x.hand(0), NOT);
            c.due("no group for age 17", x.hand(1), NOT);
            c.due("none has an age of it", x.group(3, 0, 17, 1), 1);
            c.due("the last group", x.hand(0), 3);
        });
        s.say("Promise 26", "BAD: from above to, also an age of another one", c -> {
            c.range(0, 3, 1, g -> new CampWeek().group(g, 0, 0, 1));
            c.range(0, 17, 1, from -> new CampWeek().group(0, from, 17, 1));
            c.range(0, 17, 1, to -> new CampWeek().group(0, 0, to, 1));
            c.range(1, 20, 1, most -> new CampWeek().group(0, 17, 17, most));
            c.due("from above to", new CampWeek().group(0, 5, 4, 1), BAD);
            for (int from = 0; from <= 17; from++) {
                for (int to = from; to <= 17; to++) {
                    boolean taken = from <= 6 && to >= 4 || from <= 9 && to >= 9;
                    c.due("ages " + from + " to " + to, withChildren().group(1, from, to, 1), taken ? BAD : 1);
                }
            }
            c.due("its own ages", withChildren().group(0, 0, 8, 1), 1);
            c.due("up to those of another one", withChildren().group(0, 0, 9, 1), BAD);
        });
        s.say("Promise 26", "NOT: a CHILD is in it", c -> {
            CampWeek x = withChildren(4, 9);
            c.due("children are not in it yet", x.group(0, 4, 6, 1), 1);
            x.hand(0);
            c.due("a child is in it", x.group(0, 4, 6, 1), NOT);
            c.due("nobody is in another one", x.group(2, 9, 9, 1), 1);
            x.fetch(0, 0);
            c.due("it has been fetched", x.group(0, 4, 6, 1), 1);
        });
    }

    private static void child(Sentences s) {
        s.say("Promise 27", "BAD", c -> {
            c.range(0, 0, 0, party -> {
                CampWeek x = new CampWeek();
                x.party(1, 1, 0, 0, NONE);
                return x.child(party, 5);
            });
            c.range(0, 17, 0, age -> withChildren().child(0, age));
            c.due("no parties", new CampWeek().child(0, 0), BAD);
        });
        s.say("Promise 27", "FULL: 40, or as many of that PARTY as CHILDREN", c -> {
            CampWeek x = new CampWeek();
            for (int children = 0; children <= 8; children++) {
                x.party(8, children, 0, 0, NONE);
            }
            int number = 0;
            for (int party = 0; party <= 8; party++) {
                for (int child = 0; child < party; child++) {
                    c.due("party " + party, x.child(party, 3), number);
                    number++;
                }
                c.due("no more of party " + party, x.child(party, 3), FULL);
            }
            c.due("count(4)", x.count(4), 36);
            x.party(8, 8, 0, 0, NONE);
            for (int child = 36; child < 40; child++) {
                c.due("child " + child, x.child(9, 3), child);
            }
            c.due("40, though of eight only four are told", x.child(9, 3), FULL);
        });
    }

    private static void hand(Sentences s) {
        s.say("Promise 28", "BAD", c -> {
            c.range(0, 1, 2, child -> withChildren(9, 9).hand(child));
            c.due("no children", withChildren().hand(0), BAD);
        });
        s.say("Promise 28", "NOT: no GROUP has its AGE, or it is in it", c -> {
            int[] ages = {3, 4, 6, 7, 8, 9, 10};
            int[] want = {NOT, 0, 0, NOT, NOT, 2, NOT};
            for (int i = 0; i < ages.length; i++) {
                CampWeek x = withChildren(ages[i]);
                c.due("age " + ages[i], x.hand(0), want[i]);
                c.due("age " + ages[i] + " again", x.hand(0), NOT);
            }
        });
        s.say("Promise 28", "FULL: that has its MOST", c -> {
            CampWeek x = withChildren(4, 6, 9);
            c.due("the first", x.hand(0), 0);
            c.due("one too many", x.hand(1), FULL);
            c.due("another group", x.hand(2), 2);
            x.fetch(0, 0);
            c.due("one less", x.hand(1), 0);
            c.due("it is full again", x.hand(0), FULL);
        });
    }

    private static void fetch(Sentences s) {
        s.say("Promise 29", "BAD", c -> {
            c.range(0, 1, 1, child -> {
                CampWeek x = withChildren(9, 9);
                x.hand(0);
                x.hand(1);
                return x.fetch(child, 0);
            });
            CampWeek x = withChildren(9);
            x.hand(0);
            c.outside(0, 1, BAD, party -> x.fetch(0, party));
            c.due("no children", withChildren().fetch(0, 0), BAD);
        });
        s.say("Promise 29", "NOT: it is in no GROUP, or that is not its PARTY", c -> {
            CampWeek x = withChildren(9);
            c.due("in no group", x.fetch(0, 0), NOT);
            x.hand(0);
            c.due("not its party", x.fetch(0, 1), NOT);
            c.due("it stays", x.with(0), 2);
            c.due("its party", x.fetch(0, 0), 1);
            c.due("in no group again", x.fetch(0, 0), NOT);
        });
    }

    private static void with(Sentences s) {
        s.say("Promise 30", "NONE", c -> {
            CampWeek x = withChildren(4, 6);
            c.due("with its party", x.with(0), NONE);
            x.hand(0);
            c.due("in group 0", x.with(0), 0);
            x.hand(1);
            c.due("was not taken", x.with(1), NONE);
        });
        s.say("Promise 30", "BAD", c -> {
            c.range(0, 1, NONE, child -> withChildren(4, 6).with(child));
            c.due("no children", withChildren().with(0), BAD);
        });
    }

    // ---- paying back

    private static void list(Sentences s) {
        s.say("Promise 31", "BAD", c -> {
            c.range(0, 999, 1, day -> new CampWeek().list(day, 99, 100));
            c.range(0, 99, 1, notice -> new CampWeek().list(999, notice, 100));
            c.range(0, 100, 1, part -> new CampWeek().list(999, 99, part));
        });
        s.say("Promise 31", "FULL", c -> {
            CampWeek x = new CampWeek();
            for (int line = 0; line < 29; line++) {
                x.list(0, 0, 0);
            }
            c.due("the 30th", x.list(0, 0, 0), 30);
            c.due("the 31st", x.list(0, 0, 0), FULL);
            c.due("count(6)", x.count(6), 30);
        });
    }

    private static void pays(Sentences s) {
        s.say("Promise 32", "of a DAY (0 to 999) with a notice (0 to 999)", c -> {
            CampWeek x = new CampWeek();
            x.list(999, 99, 60);
            x.list(0, 0, 20);
            c.due("the first day, no notice", x.pays(0, 0), 20);
            c.due("the last day, most notice", x.pays(999, 999), 60);
            c.due("the last day, too late", x.pays(999, 98), 0);
            c.due("the day before", x.pays(998, 999), 20);
        });
        s.say("Promise 32", "BAD", c -> {
            c.range(0, 999, 0, day -> new CampWeek().pays(day, 0));
            c.range(0, 999, 0, notice -> new CampWeek().pays(0, notice));
        });
    }

    // ---- sheets

    private static void sheet(Sentences s) {
        s.say("Promise 33", "A SHEET is a new row of a FORM with n items: n.", c -> {
            CampWeek x = new CampWeek();
            c.due("no items", x.sheet(3, 0, 0), 0);
            c.due("60 items", x.sheet(3, 1, 60), 60);
            x.put(3, 1, 59, 4);
            c.due("59 items", x.sheet(3, 1, 59), 59);
            c.due("the 60th is gone", x.put(3, 1, 59, 1), INDEX);
            c.due("60 again", x.sheet(3, 1, 60), 60);
            c.due("it is new", x.get(3, 1, 59), 0);
            c.due("another form", x.sheet(3, 2, 1), 1);
            c.due("not the old one", x.put(3, 1, 0, 1), CAST);
        });
        s.say("Promise 33", "BAD: SHEET, FORM, above 60", c -> {
            c.range(0, 3, 60, sheet -> new CampWeek().sheet(sheet, 2, 60));
            c.range(0, 2, 60, form -> new CampWeek().sheet(3, form, 60));
            c.due("61", new CampWeek().sheet(0, 0, 61), BAD);
            c.due("the most", new CampWeek().sheet(0, 0, MOST_INT), BAD);
        });
        s.say("Promise 33", "SIZE", c -> {
            CampWeek x = new CampWeek();
            c.due("-1", x.sheet(3, 2, -1), SIZE);
            c.due("still LOST", x.lose(3), NULL);
            c.due("the least", x.sheet(3, 2, LEAST_INT), SIZE);
            c.due("count(7)", x.count(7), 5);
        });
    }

    private static void lose(Sentences s) {
        s.say("Promise 34", "It is LOST: how many items it had.", c -> {
            CampWeek x = new CampWeek();
            for (int n = 0; n <= 60; n++) {
                x.sheet(2, n % 3, n);
                c.due("of " + n, x.lose(2), n);
            }
        });
        s.say("Promise 34", "BAD", c -> c.range(0, 3, 1, sheet -> {
            CampWeek x = new CampWeek();
            x.sheet(sheet, 0, 1);
            return x.lose(sheet);
        }));
        s.say("Promise 34", "NULL", c -> {
            CampWeek x = new CampWeek();
            c.due("at first", x.lose(0), NULL);
            x.sheet(0, 0, 0);
            c.due("of no items", x.lose(0), 0);
            c.due("again", x.lose(0), NULL);
        });
    }

    private static CampWeek withSheet(int sheet, int form, int n) {
        CampWeek x = new CampWeek();
        x.sheet(sheet, form, n);
        return x;
    }

    private static void put(Sentences s) {
        s.say("Promise 35", "(the lowest bits that it has)", c -> {
            int[] given = {0, 1, -1, 127, 128, 255, 256, -128, -129, 32767, 32768, 65535, 65536, -32768, -32769,
                0x12345678, 0x7fffffff, 0x80000000};
            for (int v : given) {
                int[] kept = {(byte) v, (short) v, v};
                for (int form = 0; form <= 2; form++) {
                    CampWeek x = withSheet(0, form, 1);
                    c.due("form " + form + " of " + v, x.put(0, form, 0, v), 1);
                    c.due("form " + form + " of " + v, x.get(0, form, 0), kept[form]);
                }
            }
        });
        s.say("Promise 35", "BAD", c -> {
            c.range(0, 3, 1, sheet -> withSheet(sheet, 2, 1).put(sheet, 2, 0, 0));
            c.range(0, 2, 1, form -> withSheet(3, form, 1).put(3, form, 0, 0));
        });
        s.say("Promise 35", "NULL", c -> {
            CampWeek x = withSheet(0, 1, 1);
            c.due("another sheet", x.put(1, 1, 0, 0), NULL);
            x.lose(0);
            c.due("lost", x.put(0, 1, 0, 0), NULL);
        });
        s.say("Promise 35", "CAST", c -> {
            c.due("a byte as a short", withSheet(0, 0, 1).put(0, 1, 0, 0), CAST);
            c.due("a short as an int", withSheet(0, 1, 1).put(0, 2, 0, 0), CAST);
            c.due("an int as a byte", withSheet(0, 2, 1).put(0, 0, 0, 0), CAST);
        });
        s.say("Promise 35", "INDEX", c -> {
            c.range(0, 59, 1, INDEX, i -> withSheet(0, 0, 60).put(0, 0, i, 1));
            c.range(0, 0, 1, INDEX, i -> withSheet(0, 0, 1).put(0, 0, i, 1));
            c.due("no items", withSheet(0, 0, 0).put(0, 0, 0, 1), INDEX);
        });
    }

    private static void get(Sentences s) {
        s.say("Promise 36", "BAD: the least int; so are NULL, CAST, INDEX (count() 7 tells).", c -> {
            c.range(0, 3, 0, LEAST_INT, sheet -> withSheet(sheet, 2, 1).get(sheet, 2, 0));
            c.range(0, 2, 0, LEAST_INT, form -> withSheet(3, form, 1).get(3, form, 0));
            c.range(0, 59, 0, LEAST_INT, i -> withSheet(3, 0, 60).get(3, 0, i));
            CampWeek x = withSheet(0, 0, 1);
            c.due("BAD", x.get(4, 0, 0), LEAST_INT);
            c.due("is no finding", x.count(7), 0);
            c.due("NULL", x.get(1, 0, 0), LEAST_INT);
            c.due("its number", x.count(7), 1);
            c.due("INDEX", x.get(0, 0, 1), LEAST_INT);
            c.due("its number", x.count(7), 2);
            c.due("CAST", x.get(0, 1, 0), LEAST_INT);
            c.due("its number", x.count(7), 3);
            c.due("an item", x.get(0, 0, 0), 0);
            c.due("the latest still", x.count(7), 3);
            CampWeek y = withSheet(0, 2, 1);
            y.put(0, 2, 0, LEAST_INT);
            c.due("an item that is the least int", y.get(0, 2, 0), LEAST_INT);
            c.due("is no finding", y.count(7), 0);
        });
    }

    /** Sheets 0 and 1 of ints, of six items 1 to 6 and of three items 0; sheet 2 of three bytes. */
    private static CampWeek withSheets() {
        CampWeek x = withSheet(0, 2, 6);
        for (int i = 0; i < 6; i++) {
            x.put(0, 2, i, i + 1);
        }
        x.sheet(1, 2, 3);
        x.sheet(2, 0, 3);
        return x;
    }

    private static void dueItems(Check c, CampWeek x, int sheet, int... want) {
        for (int i = 0; i < want.length; i++) {
            c.due("item " + i, x.get(sheet, 2, i), want[i]);
        }
    }

    private static void copy(Sentences s) {
        s.say("Promise 37", "(perhaps s, as they were)", c -> {
            CampWeek x = withSheets();
            c.due("forwards", x.copy(0, 0, 0, 1, 5), 1);
            dueItems(c, x, 0, 1, 1, 2, 3, 4, 5);
            c.due("backwards", x.copy(0, 1, 0, 0, 5), 1);
            dueItems(c, x, 0, 1, 2, 3, 4, 5, 5);
            c.due("onto themselves", x.copy(0, 0, 0, 0, 6), 1);
            dueItems(c, x, 0, 1, 2, 3, 4, 5, 5);
        });
        s.say("Promise 37", "BAD: the SHEETS", c -> {
            c.range(0, 3, 1, sheet -> withSheet(sheet, 0, 1).copy(sheet, 0, sheet, 0, 1));
            c.outside(0, 3, BAD, from -> withSheets().copy(from, 0, 0, 0, 0));
            c.outside(0, 3, BAD, to -> withSheets().copy(0, 0, to, 0, 0));
        });
        s.say("Promise 37", "NULL: s, t", c -> {
            c.due("s", withSheets().copy(3, 0, 0, 0, 1), NULL);
            c.due("t", withSheets().copy(0, 0, 3, 0, 1), NULL);
            c.due("both", withSheets().copy(3, 0, 3, 0, 1), NULL);
            c.due("of no items is not LOST", withSheet(3, 0, 0).copy(3, 0, 3, 0, 0), 1);
        });
        s.say("Promise 37", "STORE", c -> {
            CampWeek x = withSheets();
            c.due("ints to bytes", x.copy(0, 0, 2, 0, 1), STORE);
            c.due("bytes to ints", x.copy(2, 0, 0, 0, 1), STORE);
            c.due("none of them", x.copy(2, 0, 0, 0, 0), STORE);
            c.due("ints to ints", x.copy(0, 0, 1, 0, 1), 1);
        });
    }

    private static void copyBeyond(Sentences s) {
        s.say("Promise 37", "INDEX: below 0, not so many", c -> {
            int[][] fromToAndMany = {{-1, 0, 1}, {0, -1, 1}, {0, 0, -1}, {0, 0, 4}, {4, 0, 3}, {0, 1, 3}, {6, 0, 1},
                {0, 3, 1}, {7, 0, 0}, {0, 4, 0}, {LEAST_INT, 0, 1}, {0, LEAST_INT, 1}, {0, 0, LEAST_INT},
                {MOST_INT, 0, 1}, {0, MOST_INT, 1}, {0, 0, MOST_INT}, {1, 0, MOST_INT}, {0, 1, MOST_INT},
                {MOST_INT, 0, MOST_INT}, {0, MOST_INT, MOST_INT}, {LEAST_INT, 0, LEAST_INT}};
            for (int[] w : fromToAndMany) {
                CampWeek x = withSheets();
                c.due("from " + w[0] + " to " + w[1] + ", " + w[2], x.copy(0, w[0], 1, w[1], w[2]), INDEX);
                dueItems(c, x, 1, 0, 0, 0);
            }
            int[][] there = {{0, 0, 3}, {3, 0, 3}, {5, 2, 1}, {6, 3, 0}, {0, 0, 0}};
            for (int[] w : there) {
                c.due("from " + w[0] + " to " + w[1] + ", " + w[2], withSheets().copy(0, w[0], 1, w[1], w[2]), 1);
            }
        });
        s.say("Promise 37", "n items of SHEET s, from i on, come to SHEET t", c -> {
            CampWeek x = withSheets();
            x.copy(0, 3, 1, 1, 2);
            dueItems(c, x, 1, 0, 4, 5);
            x.copy(0, 3, 1, 0, 0);
            dueItems(c, x, 1, 0, 4, 5);
            x.copy(0, 0, 1, 0, 3);
            dueItems(c, x, 1, 1, 2, 3);
            dueItems(c, x, 0, 1, 2, 3, 4, 5, 6);
        });
    }

    private static void count(Sentences s) {
        s.say("Promise 38", "7 the number of the latest FINDING (0 before any)", c -> {
            CampWeek x = new CampWeek();
            c.due("before any", x.count(7), 0);
            x.sheet(0, 0, -1);
            c.due("SIZE", x.count(7), 5);
            x.lose(0);
            c.due("NULL", x.count(7), 1);
            x.lose(4);
            c.due("BAD is none", x.count(7), 1);
            x.sheet(0, 0, 1);
            c.due("what succeeds is none", x.count(7), 1);
        });
        s.say("Promise 38", "BAD", c -> c.range(0, 7, 0, what -> new CampWeek().count(what)));
    }

    /** The digest of those parts, as the document tells it. */
    private static long digestOf(long... parts) {
        BigInteger h = BigInteger.valueOf(17);
        for (long part : parts) {
            h = h.multiply(BigInteger.valueOf(31)).add(BigInteger.valueOf(part));
        }
        return h.longValue();
    }

    private static void digest(Sentences s) {
        s.say("Promise 39", "as longs that wrap", c -> {
            c.due("of a new object", new CampWeek().digest(), digestOf(new long[17]));
            CampWeek x = Camps.full(8);
            long[] parts = new long[7 + 24 + 10];
            parts[0] = 24;
            parts[1] = 24;
            parts[2] = 24;
            for (int party = 0; party < 24; party++) {
                parts[7 + party] = party;
            }
            parts[31] = NONE;
            c.due("of a full camp", x.digest(), digestOf(parts));
            x.leave(23);
            parts[2] = 23;
            parts[30] = NONE;
            c.due("without the last party", x.digest(), digestOf(parts));
        });
        s.say("Promise 39", "h is 17; h becomes 31 h and each of: count() 0 to 6, of each PARTY its HUT, "
                + "of each WEEK apart(), of each SHOW where(), of each CHILD with()", c -> {
            CampWeek x = new CampWeek();
            x.party(2, 2, 9, 9, NONE);
            x.party(1, 0, 9, 9, NONE);
            x.hut(0, 2);
            x.lodge(0);
            withShows(x, 2);
            x.show(4, 0, NONE);
            x.child(0, 1);
            x.child(0, 2);
            x.group(3, 2, 2, 1);
            x.hand(1);
            for (int line = 0; line < 5; line++) {
                x.cook(0, 0, 0);
                x.list(0, 0, 0);
            }
            x.list(0, 0, 0);
            long[] parts = {1, 2, 1, 3, 2, 5, 6, 0, NONE, 0, 0, 0, 0, 0, 0, 0, 0, 0, 2, 6, 6, 4, NONE, 3};
            c.due("of some of each", x.digest(), digestOf(parts));
            x.seats(1, 1);
            x.sheet(0, 0, 1);
            x.put(0, 0, 0, 1);
            parts[18] = NONE;
            parts[19] = NONE;
            parts[20] = NONE;
            c.due("of what has no way and falls out", x.digest(), digestOf(parts));
        });
    }
}
