/** The boundaries that the terms name, sections 1 to 7. */
final class TermEdges {
    private static final int NONE = CampWeek.NONE;
    private static final int BAD = CampWeek.BAD;
    private static final int NOT = CampWeek.NOT;
    private static final int FULL = CampWeek.FULL;
    private static final int LEAST_INT = Integer.MIN_VALUE;

    private TermEdges() {
    }

    static void all(Sentences s) {
        use(s);
        huts(s);
        parties(s);
        free(s);
        told(s);
        dearest(s);
        whoMoves(s);
        whereto(s);
        sittings(s);
        waysToPart(s);
        shows(s);
        rain(s);
        wishes(s);
        crowds(s);
        turnedAway(s);
        kitchen(s);
        children(s);
        payingBack(s);
        paidByTheList(s);
        sheets(s);
        findings(s);
    }

    private static void use(Sentences s) {
        s.say("What it is", "An object is used for at most 512 calls after it has been made", c -> {
            CampWeek x = new CampWeek();
            for (int call = 1; call < 511; call++) {
                c.due("call " + call, x.lose(0), -11);
            }
            c.due("call 511", x.hut(0, 1), 0);
            c.due("call 512", x.count(0), 1);
        });
        s.say("What it is", "weather sheets that are lost", c -> {
            CampWeek x = new CampWeek();
            x.sheet(0, 0, 1);
            x.put(0, 0, 0, 1);
            c.due("wet(0)", x.wet(0), 1);
            x.lose(0);
            c.due("wet(0), lost", x.wet(0), 0);
        });
    }

    // ---- 1: huts, parties

    private static void huts(Sentences s) {
        s.say("1", "HUTS 0 .. 29 (30 at most)", c -> {
            CampWeek x = Camps.ofHuts(29, 1);
            c.due("the last hut", x.hut(0, 1), 29);
            c.due("one more", x.hut(0, 1), FULL);
            c.due("count(0)", x.count(0), 30);
            c.range(0, 29, NONE, hut -> x.in(hut, 0));
        });
        s.say("1", "have a ROW (0 to 5)", c -> c.range(0, 5, 0, row -> new CampWeek().hut(row, 1)));
        s.say("1", "and BEDS (1 to 8)", c -> {
            c.range(1, 8, 0, beds -> new CampWeek().hut(0, beds));
            c.due("one bed", Camps.ofHuts(1, 1).empty(0), 1);
            c.due("eight beds", Camps.ofHuts(1, 8).empty(0), 8);
        });
        s.say("1", "WEEKS are 0 .. 9.", c -> {
            CampWeek x = Camps.ofHuts(1, 4);
            c.range(0, 9, 4, x::empty);
        });
    }

    private static void parties(Sentences s) {
        s.say("1", "PARTIES 0 .. 23 (24 at most)", c -> {
            CampWeek x = new CampWeek();
            for (int party = 0; party < 23; party++) {
                x.party(3, 0, 0, 0, NONE);
            }
            c.due("the last party", x.party(3, 0, 0, 0, NONE), 23);
            c.due("one more", x.party(3, 0, 0, 0, NONE), FULL);
            c.due("count(1)", x.count(1), 24);
            c.range(0, 23, 3, party -> x.about(party, 0));
        });
        s.say("1", "have a SIZE (1 to 8)", c -> {
            c.range(1, 8, 0, size -> new CampWeek().party(size, 0, 0, 0, NONE));
            CampWeek x = Camps.add(new CampWeek(), 1, 8);
            c.due("one", x.about(0, 0), 1);
            c.due("eight", x.about(1, 0), 8);
        });
        s.say("1", "CHILDREN (0 to SIZE)", c -> {
            c.range(0, 1, 0, children -> new CampWeek().party(1, children, 0, 0, NONE));
            c.range(0, 5, 0, children -> new CampWeek().party(5, children, 0, 0, NONE));
            c.range(0, 8, 0, children -> new CampWeek().party(8, children, 0, 0, NONE));
        });
        s.say("1", "WEEKS from .. to", c -> {
            c.range(0, 4, 0, from -> new CampWeek().party(1, 0, from, 4, NONE));
            c.range(4, 9, 0, to -> new CampWeek().party(1, 0, 4, to, NONE));
            c.range(0, 0, 0, from -> new CampWeek().party(1, 0, from, 0, NONE));
            c.range(9, 9, 0, to -> new CampWeek().party(1, 0, 9, to, NONE));
        });
        s.say("1", "a TABLE (0 to 9; NONE)", c -> {
            c.range(-1, 9, 0, table -> new CampWeek().party(1, 0, 0, 0, table));
            CampWeek x = new CampWeek();
            for (int table = -1; table <= 9; table++) {
                x.party(1, 0, 0, 0, table);
                c.due("table " + table, x.about(table + 1, 4), table);
            }
        });
    }

    /** What a party of those weeks is answered in a camp of one hut with one of weeks 3 to 5. */
    private static int besideWeeks3To5(int from, int to) {
        CampWeek x = Camps.ofHuts(1, 2);
        x.party(1, 0, 3, 5, NONE);
        x.lodge(0);
        x.party(1, 0, from, to, NONE);
        return x.lodge(1);
    }

    /** What a party of those weeks is answered in a camp of one row with one of weeks 3 to 5 told APART from it. */
    private static int apartFromWeeks3To5(int from, int to) {
        CampWeek x = Camps.ofHuts(2, 2);
        x.party(1, 0, 3, 5, NONE);
        x.lodge(0);
        x.party(1, 0, from, to, NONE);
        x.tell(0, 1, 1);
        return x.lodge(1);
    }

    private static void free(Sentences s) {
        s.say("1", "A HUT is FREE for a PARTY, if it has BEDS for its SIZE", c -> {
            for (int size = 1; size <= 7; size++) {
                c.due("as many beds", Camps.add(Camps.ofHuts(1, size), size).lodge(0), 0);
                c.due("one bed too few", Camps.add(Camps.ofHuts(1, size), size + 1).lodge(0), NONE);
            }
        });
        s.say("1", "and no other one is LODGED there in any of its WEEKS", c -> {
            c.due("up to the week before", besideWeeks3To5(0, 2), 0);
            c.due("from the week after on", besideWeeks3To5(6, 9), 0);
            c.due("up to the first week", besideWeeks3To5(0, 3), NONE);
            c.due("from the last week on", besideWeeks3To5(5, 9), NONE);
            c.due("within", besideWeeks3To5(4, 4), NONE);
            c.due("around", besideWeeks3To5(0, 9), NONE);
            c.due("the same", besideWeeks3To5(3, 5), NONE);
        });
    }

    private static void told(Sentences s) {
        s.say("1", "two of them are never LODGED in one ROW in a WEEK in which both are there", c -> {
            c.due("up to the week before", apartFromWeeks3To5(0, 2), 0);
            c.due("from the week after on", apartFromWeeks3To5(6, 9), 0);
            c.due("up to the first week", apartFromWeeks3To5(0, 3), NONE);
            c.due("from the last week on", apartFromWeeks3To5(5, 9), NONE);
            c.due("within", apartFromWeeks3To5(4, 4), NONE);
            c.due("around", apartFromWeeks3To5(0, 9), NONE);
        });
        s.say("1", "in whose ROW none is LODGED that is told APART from it (in a WEEK that both have)", c -> {
            CampWeek x = Camps.ofHuts(2, 1);
            x.hut(5, 8);
            Camps.add(x, 1, 1, 1);
            x.tell(1, 0, 1);
            x.tell(2, 1, 1);
            c.due("the first", x.lodge(0), 0);
            c.due("apart from it: row 5, though dearer in row 0", x.lodge(1), 2);
            c.due("apart from that: row 0", x.lodge(2), 1);
            x.leave(2);
            x.leave(1);
            x.leave(0);
            c.due("told apart from one that is not lodged", x.lodge(1), 0);
        });
        s.say("1", "a HUT in the other one's ROW is dearer", c -> {
            CampWeek x = Camps.ofRows(1, 8, 2);
            x.hut(2, 8);
            Camps.add(x, 2, 1);
            x.tell(0, 1, 0);
            c.due("told NEXT, the other one not lodged", x.lodge(1), 0);
            x.leave(1);
            c.due("the other one", x.lodge(0), 2);
            c.due("its row, with seven beds left over", x.lodge(1), 3);
            x.leave(1);
            x.tell(0, 1, 2);
            c.due("told neither", x.lodge(1), 0);
        });
    }

    private static void dearest(Sentences s) {
        s.say("1", "the dearest: first one in a ROW in which one is LODGED that is told NEXT to it "
                + "(in a WEEK that both have)", c -> {
            int[][] weeksAndHut = {{0, 2, 0}, {0, 3, 2}, {4, 4, 2}, {5, 9, 2}, {6, 9, 0}};
            for (int[] w : weeksAndHut) {
                CampWeek x = Camps.ofRows(1, 2);
                x.hut(1, 8);
                x.party(2, 0, 3, 5, NONE);
                x.lodge(0);
                x.party(1, 0, w[0], w[1], NONE);
                x.tell(0, 1, 0);
                c.due("weeks " + w[0] + " to " + w[1], x.lodge(1), w[2]);
            }
        });
        s.say("1", "then with the fewest BEDS left over", c -> {
            CampWeek x = Camps.add(Camps.ofRows(8, 4, 3, 5, 2), 3, 3, 3, 3, 3);
            int[] want = {2, 1, 3, 0, NONE};
            for (int party = 0; party < 5; party++) {
                c.due("lodge(" + party + ")", x.lodge(party), want[party]);
            }
            CampWeek y = Camps.ofRows(1, 8);
            y.hut(1, 8);
            y.hut(1, 7);
            Camps.add(y, 8, 1);
            y.tell(0, 1, 0);
            c.due("the one told NEXT", y.lodge(0), 1);
            c.due("of two in its row", y.lodge(1), 3);
        });
        s.say("1", "then the least number", c -> {
            CampWeek x = Camps.add(Camps.ofRows(8, 4, 4, 4), 4, 4, 4);
            for (int party = 0; party < 3; party++) {
                c.due("lodge(" + party + ")", x.lodge(party), party + 1);
            }
            x.leave(0);
            x.leave(1);
            c.due("after leaving", x.lodge(1), 1);
        });
    }

    private static void whoMoves(Sentences s) {
        s.say("1", "If there is none: PARTIES that are LODGED, by numbers", c -> {
            CampWeek x = Camps.add(Camps.ofRows(5, 5), 1, 1, 1, 5);
            c.due("party 2", x.lodge(2), 0);
            c.due("party 1", x.lodge(1), 1);
            x.hut(2, 1);
            c.due("the first that is lodged moves", x.lodge(3), 1);
            c.due("moved()", x.moved(), 1);
            c.due("it has the new hut", x.about(1, 5), 2);
            CampWeek y = Camps.add(Camps.ofRows(2, 8), 1, 2);
            c.due("one bed left over", y.lodge(0), 0);
            y.hut(2, 1);
            c.due("there is one: nobody moves", y.lodge(1), 1);
            c.due("moved()", y.moved(), NONE);
        });
        s.say("1", "the first one whose HUT would be FREE for the new one (that one gone; APART kept)", c -> {
            CampWeek small = Camps.add(Camps.ofRows(4, 5), 1, 5, 5);
            small.lodge(0);
            small.lodge(1);
            small.hut(2, 2);
            c.due("one bed too few", small.lodge(2), NONE);

            CampWeek shared = Camps.ofRows(5, 2);
            shared.party(2, 0, 0, 0, NONE);
            shared.party(5, 0, 1, 1, NONE);
            shared.party(5, 0, 0, 1, NONE);
            shared.party(1, 0, 0, 0, NONE);
            shared.lodge(3);
            shared.lodge(0);
            shared.lodge(1);
            shared.leave(3);
            c.due("another one stays in its hut", shared.lodge(2), NONE);
            shared.leave(1);
            c.due("the other one left", shared.lodge(2), 0);
            c.due("moved()", shared.moved(), 0);

            CampWeek apart = Camps.ofHuts(2, 2);
            apart.hut(1, 2);
            Camps.add(apart, 2, 1, 1, 2);
            for (int party = 0; party < 3; party++) {
                apart.lodge(party);
            }
            apart.hut(2, 1);
            apart.tell(3, 0, 1);
            c.due("not in the row of its APART", apart.lodge(3), 2);
            c.due("moved()", apart.moved(), 2);
        });
    }

    private static void whereto(Sentences s) {
        s.say("1", "and that then, the new one being there, could be LODGED in another HUT", c -> {
            CampWeek x = Camps.add(Camps.ofRows(4, 4), 3, 2, 4);
            x.lodge(0);
            x.lodge(1);
            x.hut(2, 2);
            c.due("party 0 finds none, party 1 does", x.lodge(2), 1);
            c.due("moved()", x.moved(), 1);
            c.due("party 0 stays", x.about(0, 5), 0);
            CampWeek y = Camps.add(Camps.ofHuts(1, 4), 2, 4);
            y.lodge(0);
            c.due("there is no other hut", y.lodge(1), NONE);
            y.hut(0, 3);
            y.tell(0, 1, 1);
            c.due("APART: not in the row of the new one", y.lodge(1), NONE);
            y.hut(1, 2);
            c.due("in another row", y.lodge(1), 0);
            c.due("party 0 there", y.about(0, 5), 2);
        });
        s.say("1", "both are (that one in the dearest)", c -> {
            CampWeek x = Camps.add(Camps.ofHuts(1, 8), 2, 8);
            x.lodge(0);
            int[] beds = {7, 3, 2, 2};
            for (int row = 0; row < beds.length; row++) {
                x.hut(row, beds[row]);
            }
            c.due("the new one", x.lodge(1), 0);
            c.due("the fewest beds left over, the least number", x.about(0, 5), 3);
            CampWeek y = Camps.add(Camps.ofHuts(1, 8), 2, 8);
            y.tell(1, 0, 0);
            y.lodge(0);
            y.hut(1, 2);
            y.hut(0, 7);
            c.due("the new one", y.lodge(1), 0);
            c.due("told NEXT to the new one", y.about(0, 5), 2);
        });
        s.say("1", "Else none.", c -> {
            CampWeek x = Camps.add(Camps.ofRows(3, 2), 3, 2, 1);
            c.due("lodge(0)", x.lodge(0), 0);
            c.due("lodge(1)", x.lodge(1), 1);
            c.due("lodge(2)", x.lodge(2), NONE);
            c.due("it is not lodged", x.about(2, 5), NONE);
            c.due("party 0 stays", x.about(0, 5), 0);
            c.due("party 1 stays", x.about(1, 5), 1);
            c.due("no huts at all", Camps.add(new CampWeek(), 1).lodge(0), NONE);
        });
    }

    // ---- 2: sittings

    private static void sittings(Sentences s) {
        s.say("2", "each with SEATS (told; 60 at first)", c -> {
            int[] one = new int[8];
            c.due("60 at one table", Camps.with(new int[] {8, 8, 8, 8, 8, 8, 8, 4}, one).apart(0), 60);
            c.due("61 at one table", Camps.with(new int[] {8, 8, 8, 8, 8, 8, 8, 5}, one).apart(0), NONE);
            c.due("120 people", Camps.full(5).apart(0), 0);
            c.due("121 people", Camps.with(8, 8, 8, 8, 8, 8, 8, 5, 8, 8, 8, 8, 8, 8, 8, 4).apart(0), NONE);
        });
        s.say("2", "PARTIES of one TABLE sit together (others each by themselves)", c -> {
            for (int table = 0; table <= 9; table++) {
                c.due("table " + table, Camps.with(new int[] {4, 4}, new int[] {table, table}).apart(0), 8);
                c.due("table " + table + " and none",
                        Camps.with(new int[] {4, 4}, new int[] {table, NONE}).apart(0), 0);
                c.due("table " + table + " and the next",
                        Camps.with(new int[] {4, 4}, new int[] {table, (table + 1) % 10}).apart(0), 0);
            }
            c.due("no table", Camps.with(4, 4).apart(0), 0);
        });
    }

    private static void waysToPart(Sentences s) {
        s.say("2", "that way to part them with the least difference of numbers of people", c -> {
            c.due("nobody", new CampWeek().apart(0), 0);
            c.due("one party", Camps.with(7).apart(0), 7);
            c.due("8 against 7", Camps.with(8, 7).apart(0), 1);
            c.due("7 + 5 against 6 + 6", Camps.with(7, 6, 6, 5).apart(0), 0);
            c.due("the largest with none", Camps.with(8, 1, 1).apart(0), 6);
        });
        s.say("2", "neither above SEATS", c -> {
            CampWeek x = Camps.with(8, 7);
            int[][] seatsAndApart = {{8, 7, 1}, {7, 8, 1}, {7, 7, NONE}, {15, 6, 15}, {6, 15, 15}, {14, 6, NONE},
                {6, 14, NONE}, {15, 0, 15}, {0, 15, 15}, {14, 14, 1}, {200, 200, 1}};
            for (int[] w : seatsAndApart) {
                x.seats(w[0], w[1]);
                c.due("seats " + w[0] + " " + w[1], x.apart(0), w[2]);
            }
            CampWeek y = Camps.with(2, 4);
            y.seats(4, 2);
            dueSittings(c, y, 1, 0);
            y.seats(2, 4);
            dueSittings(c, y, 0, 1);
        });
        s.say("2", "of like ones that in which the first PARTY (by number) in which they part has SITTING 0", c -> {
            dueSittings(c, Camps.with(2, 2, 2, 2), 0, 0, 1, 1);
            dueSittings(c, Camps.with(3, 1, 2, 2), 0, 0, 1, 1);
            dueSittings(c, Camps.with(3, 2, 2, 1), 0, 1, 1, 0);
            dueSittings(c, Camps.with(1, 2), 0, 1);
            dueSittings(c, Camps.with(2, 1), 0, 1);
            dueSittings(c, Camps.with(1, 1, 1), 0, 0, 1);
            dueSittings(c, Camps.with(new int[] {1, 2, 1, 2}, new int[] {0, 1, 0, 1}), 0, 1, 0, 1);
            CampWeek x = Camps.with(1, 1, 1);
            x.seats(1, 2);
            dueSittings(c, x, 0, 1, 1);
            x.seats(0, 3);
            dueSittings(c, x, 1, 1, 1);
        });
        s.say("2", "None, if none keeps to SEATS.", c -> {
            CampWeek x = Camps.with(1);
            x.seats(0, 0);
            c.due("one person, no seat", x.apart(0), NONE);
            dueSittings(c, x, NONE);
            c.due("a week with nobody", x.apart(1), 0);
            CampWeek y = Camps.with(3, 3, 3);
            y.seats(5, 5);
            c.due("10 seats for 9, but parties stay whole", y.apart(0), NONE);
        });
    }

    private static void dueSittings(Check c, CampWeek x, int... want) {
        for (int party = 0; party < want.length; party++) {
            c.due("sits(" + party + ", 0)", x.sits(party, 0), want[party]);
        }
    }

    // ---- 3: shows

    private static void shows(Sentences s) {
        s.say("3", "SHOWS 0 .. 11 (12 at most)", c -> {
            CampWeek x = new CampWeek();
            for (int show = 0; show < 11; show++) {
                x.show(0, 0, NONE);
            }
            c.due("the last show", x.show(0, 0, NONE), 11);
            c.due("one more", x.show(0, 0, NONE), FULL);
            c.range(0, 11, 0, x::where);
        });
        s.say("3", "in a HALL (0 to 5) or OUTDOORS (NONE)", c -> {
            c.range(-1, 5, 0, hall -> new CampWeek().show(hall, 0, NONE));
            c.range(-1, 5, 0, hall -> new CampWeek().show(NONE, 0, hall));
            c.range(0, 5, 0, hall -> new CampWeek().hall(hall, 0));
        });
        s.say("3", "at an HOUR (0 to 39)", c -> {
            c.range(0, 39, 0, hour -> new CampWeek().show(0, hour, NONE));
            c.range(0, 39, 0, hour -> new CampWeek().wet(hour));
        });
        s.say("3", "HALLS have ROOM (0 to 500; 0 at first)", c -> {
            c.range(0, 500, 0, room -> new CampWeek().hall(5, room));
            CampWeek x = Camps.with(1);
            x.show(0, 0, NONE);
            x.wish(0, 0);
            c.due("no room at first", x.goes(0, 0, 0), NONE);
            c.due("0 at first", x.hall(0, 500), 0);
            c.due("the most", x.hall(0, 0), 500);
            c.due("none again", x.goes(0, 0, 0), NONE);
        });
        s.say("3", "OUTDOORS has 1000.", c -> {
            CampWeek x = Camps.full(8);
            x.show(NONE, 39, NONE);
            for (int party = 0; party < 24; party++) {
                x.wish(party, 0);
            }
            c.due("all the camp", x.crowd(0, 0), 192);
            c.due("the last one", x.goes(23, 0, 39), 0);
        });
    }

    private static void rain(Sentences s) {
        s.say("3", "An HOUR is WET, if item HOUR of SHEET 0 is there and above 0.", c -> {
            CampWeek x = new CampWeek();
            c.due("no sheet", x.wet(0), 0);
            x.sheet(0, 0, 0);
            c.due("no items", x.wet(0), 0);
            int[][] formItemAndWet = {{0, 1, 1}, {0, 0, 0}, {0, -1, 0}, {0, 127, 1}, {0, 128, 0}, {0, 256, 0},
                {0, 257, 1}, {1, 32767, 1}, {1, 32768, 0}, {1, 65537, 1}, {2, Integer.MAX_VALUE, 1}, {2, LEAST_INT, 0}};
            for (int[] w : formItemAndWet) {
                x.sheet(0, w[0], 17);
                x.put(0, w[0], 16, w[1]);
                c.due("form " + w[0] + ", item " + w[1], x.wet(16), w[2]);
                c.due("the hour before", x.wet(15), 0);
                x.sheet(0, w[0], 16);
                c.due("the item is not there", x.wet(16), 0);
            }
            for (int sheet = 1; sheet <= 3; sheet++) {
                x.sheet(sheet, 0, 60);
                x.put(sheet, 0, 16, 1);
                c.due("of sheet " + sheet, x.wet(16), 0);
            }
        });
        s.say("3", "a SHOW OUTDOORS has a HALL for WET HOURS (NONE: it falls out then)", c -> {
            CampWeek x = new CampWeek();
            x.sheet(0, 0, 40);
            x.show(NONE, 9, 0);
            x.show(NONE, 9, 5);
            x.show(NONE, 9, NONE);
            x.show(2, 9, NONE);
            int[] dry = {6, 6, 6, 2};
            int[] wet = {0, 5, NONE, 2};
            for (int show = 0; show < 4; show++) {
                c.due("dry: " + show, x.where(show), dry[show]);
            }
            x.put(0, 0, 9, 1);
            for (int show = 0; show < 4; show++) {
                c.due("wet: " + show, x.where(show), wet[show]);
            }
        });
        s.say("3", "From an HOUR that is WET on all later ones of that DAY (HOURS 8 d to 8 d and 7) "
                + "count as WET.", c -> {
            for (int rain = 0; rain < 40; rain++) {
                CampWeek x = new CampWeek();
                x.sheet(0, 0, 40);
                x.put(0, 0, rain, 1);
                for (int hour = 0; hour < 40; hour++) {
                    boolean isWet = hour >= rain && hour / 8 == rain / 8;
                    c.due("rain at " + rain + ", hour " + hour, x.wet(hour), isWet ? 1 : 0);
                }
            }
        });
    }

    private static void wishes(Sentences s) {
        s.say("3", "up to 6 SHOWS, the dearest first", c -> {
            CampWeek x = Camps.with(1);
            for (int show = 0; show < 7; show++) {
                x.show(NONE, 0, NONE);
            }
            for (int show = 5; show >= 0; show--) {
                c.due("wish for " + show, x.wish(0, show), 6 - show);
            }
            c.due("a seventh", x.wish(0, 6), FULL);
            c.due("the dearest", x.goes(0, 0, 0), 5);
        });
        s.say("3", "each goes (all of it) to the dearest of its WISHES at that HOUR that does not fall out", c -> {
            CampWeek x = Camps.with(3);
            c.due("no wishes", x.goes(0, 0, 7), NONE);
            x.show(NONE, 6, NONE);
            x.show(NONE, 7, NONE);
            x.show(NONE, 7, 1);
            x.show(0, 7, NONE);
            x.hall(0, 3);
            x.hall(1, 3);
            for (int show = 0; show < 4; show++) {
                x.wish(0, show);
            }
            c.due("at that hour", x.goes(0, 0, 7), 1);
            c.due("at the hour before", x.goes(0, 0, 6), 0);
            c.due("at the hour after", x.goes(0, 0, 8), NONE);
            c.due("all of it", x.crowd(1, 0), 3);
            x.sheet(0, 0, 1);
            x.put(0, 0, 0, 1);
            c.due("the dearest falls out", x.goes(0, 0, 7), 2);
            c.due("all at that hour fall out", x.goes(0, 0, 6), NONE);
            c.due("nobody is in it", x.crowd(1, 0), 0);
        });
    }

    private static void crowds(Sentences s) {
        s.say("3", "PARTIES that are LODGED in the WEEK told, by numbers", c -> {
            CampWeek x = Camps.ofHuts(3, 8);
            x.party(4, 0, 2, 3, NONE);
            x.party(4, 0, 1, 4, NONE);
            x.show(0, 0, NONE);
            x.hall(0, 4);
            x.wish(0, 0);
            x.wish(1, 0);
            x.lodge(1);
            c.due("the other one is not lodged", x.goes(1, 2, 0), 0);
            x.lodge(0);
            int[] firstGoes = {NONE, NONE, 0, 0, NONE, NONE};
            int[] secondGoes = {NONE, 0, NONE, NONE, 0, NONE};
            for (int week = 0; week <= 5; week++) {
                c.due("party 0 in week " + week, x.goes(0, week, 0), firstGoes[week]);
                c.due("party 1 in week " + week, x.goes(1, week, 0), secondGoes[week]);
            }
        });
        s.say("3", "and whose place has ROOM left for it", c -> {
            CampWeek x = Camps.with(4, 1);
            x.show(0, 0, NONE);
            x.wish(0, 0);
            x.wish(1, 0);
            int[][] want = {{NONE, NONE, 0}, {NONE, 0, 1}, {NONE, 0, 1}, {NONE, 0, 1}, {0, NONE, 4}, {0, 0, 5},
                {0, 0, 5}};
            for (int room = 0; room <= 6; room++) {
                x.hall(0, room);
                c.due("room " + room + ": 4 people", x.goes(0, 0, 0), want[room][0]);
                c.due("room " + room + ": 1 more", x.goes(1, 0, 0), want[room][1]);
                c.due("room " + room + ": crowd", x.crowd(0, 0), want[room][2]);
            }
        });
        s.say("3", "SHOWS of one HOUR in one place share its ROOM", c -> {
            CampWeek x = Camps.with(4, 4, 4);
            x.hall(0, 8);
            x.show(0, 8, NONE);
            x.show(0, 8, NONE);
            x.show(NONE, 8, 0);
            x.show(0, 9, NONE);
            for (int party = 0; party < 3; party++) {
                x.wish(party, 2 - party);
                x.wish(party, 3);
            }
            c.due("4 outdoors, 8 in the hall", x.goes(2, 0, 8), 0);
            c.due("another hour has the room anew", x.crowd(3, 0), 8);
            x.sheet(0, 0, 9);
            x.put(0, 0, 8, 1);
            c.due("for wet hours: first", x.goes(0, 0, 8), 2);
            c.due("for wet hours: second", x.goes(1, 0, 8), 1);
            c.due("for wet hours: no room", x.goes(2, 0, 8), NONE);
            x.hall(0, 12);
            c.due("room for all", x.goes(2, 0, 8), 0);
        });
    }

    private static void turnedAway(Sentences s) {
        s.say("3", "It is TURNED AWAY from those that are dearer, are at that HOUR, do not fall out, "
                + "and had no ROOM left.", c -> {
            CampWeek x = Camps.with(1, 4);
            x.hall(0, 4);
            x.hall(1, 3);
            x.hall(2, 4);
            x.show(0, 8, NONE);
            x.show(1, 8, NONE);
            x.show(1, 9, NONE);
            x.show(NONE, 8, 2);
            x.show(1, 8, NONE);
            x.show(NONE, 8, NONE);
            x.wish(0, 0);
            for (int show : new int[] {5, 2, 0, 1, 3, 4}) {
                x.wish(1, show);
            }
            c.due("outdoors", x.goes(1, 0, 8), 5);
            c.due("from none that is dearer", x.turned(1, 0, 8), 0);
            x.sheet(0, 0, 9);
            x.put(0, 0, 8, 1);
            c.due("rain: the third at that hour", x.goes(1, 0, 8), 3);
            c.due("not from what falls out, another hour's, one dear less", x.turned(1, 0, 8), 2);
            c.due("the other hour", x.turned(1, 0, 9), 1);
            x.hall(2, 3);
            c.due("nowhere", x.goes(1, 0, 8), NONE);
            c.due("from all that had no room", x.turned(1, 0, 8), 4);
            x.leave(0);
            c.due("room is left again", x.goes(1, 0, 8), 0);
            c.due("from none", x.turned(1, 0, 8), 0);
            x.leave(1);
            c.due("not there", x.turned(1, 0, 8), 0);
        });
    }

    // ---- 4: kitchen

    /** Dinners of one sitting with all parties of those sizes and children. */
    private static int dinners(int... sizesAndChildren) {
        CampWeek x = Camps.ofHuts(sizesAndChildren.length / 2, 8);
        for (int i = 0; i < sizesAndChildren.length; i += 2) {
            x.party(sizesAndChildren[i], sizesAndChildren[i + 1], 0, 0, 0);
            x.lodge(i / 2);
        }
        return x.foretell(0, 0);
    }

    private static void kitchen(Sentences s) {
        s.say("4", "dinners are people of it, less CHILDREN, and half of CHILDREN (cut)", c -> {
            c.due("no children", dinners(3, 0), 3);
            c.due("one child, cut", dinners(3, 1), 2);
            c.due("two children", dinners(3, 2), 2);
            c.due("three children, cut", dinners(3, 3), 1);
            c.due("a child alone", dinners(1, 1), 0);
            c.due("of the sitting, not of each party", dinners(2, 1, 2, 1), 3);
        });
        s.say("4", "cooks by a PART in hundredths more (0 to 50; 10 at first, cut)", c -> {
            c.range(0, 50, 10, part -> new CampWeek().more(part));
            int[][] sizePartAndCooked = {{8, 0, 8}, {8, 12, 8}, {8, 13, 9}, {1, 50, 1}, {2, 50, 3}, {3, 33, 3},
                {3, 34, 4}};
            for (int[] w : sizePartAndCooked) {
                CampWeek x = Camps.with(w[0]);
                x.more(w[1]);
                c.due("part " + w[1] + " of " + w[0], x.cook(0, 0, 0), w[2]);
            }
            c.due("10 at first: 9", Camps.with(new int[] {8, 1}, new int[] {0, 0}).cook(0, 0, 0), 9);
            c.due("10 at first: 10", Camps.with(new int[] {8, 2}, new int[] {0, 0}).cook(0, 0, 0), 11);
        });
        s.say("4", "LEFT is what was cooked less these (below 0: it was SHORT by so many)", c -> {
            CampWeek x = Camps.with(5);
            c.due("nobody came", x.cook(0, 0, 0), 5);
            c.due("one left", x.cook(0, 0, 4), 1);
            c.due("none left", x.cook(0, 0, 5), 0);
            c.due("short by one", x.cook(0, 0, 6), -1001);
            c.due("short by 495", x.cook(0, 0, 500), -1495);
        });
        s.say("4", "THE BOOK keeps these: up to 40 lines of WEEK, SITTING, foretold, cooked, come.", c -> {
            CampWeek x = Camps.ofHuts(1, 8);
            x.party(8, 0, 5, 9, NONE);
            x.lodge(0);
            x.more(50);
            for (int line = 0; line < 40; line++) {
                x.cook(line / 4, line % 2, line);
                c.due("lines", x.count(5), line + 1);
            }
            c.due("one more", x.cook(0, 0, 0), FULL);
            c.outside(0, 39, BAD, line -> x.line(line, 2));
            for (int line = 0; line < 40; line++) {
                boolean eats = line % 2 == 0 && line / 4 >= 5;
                int[] want = {line / 4, line % 2, eats ? 8 : 0, eats ? 12 : 0, line};
                for (int what = 0; what < 5; what++) {
                    c.due("line(" + line + ", " + what + ")", x.line(line, what), want[what]);
                }
            }
        });
    }

    // ---- 5: children

    private static void children(Sentences s) {
        s.say("5", "CHILDREN's GROUPS 0 .. 3", c -> c.range(0, 3, 1, g -> new CampWeek().group(g, 0, 17, 1)));
        s.say("5", "have ages from .. to (0 to 17, none in two)", c -> {
            c.range(0, 8, 1, from -> new CampWeek().group(0, from, 8, 1));
            c.range(8, 17, 1, to -> new CampWeek().group(0, 8, to, 1));
            CampWeek x = new CampWeek();
            x.group(0, 6, 8, 1);
            c.due("up to its youngest", x.group(1, 0, 6, 1), BAD);
            c.due("from its oldest on", x.group(1, 8, 17, 1), BAD);
            c.due("up to the age before", x.group(1, 0, 5, 1), 1);
            c.due("from the age after on", x.group(2, 9, 17, 1), 1);
        });
        s.say("5", "A CHILD (up to 40)", c -> {
            CampWeek x = new CampWeek();
            for (int party = 0; party < 6; party++) {
                x.party(8, 8, 0, 0, NONE);
            }
            for (int child = 0; child < 40; child++) {
                c.due("child " + child, x.child(child / 8, 0), child);
            }
            c.due("one more", x.child(5, 0), FULL);
            c.range(0, 39, NONE, x::with);
        });
        s.say("5", "it is with its PARTY (NONE) or in its GROUP", c -> {
            CampWeek x = new CampWeek();
            x.party(1, 1, 0, 0, NONE);
            x.child(0, 17);
            x.group(3, 17, 17, 1);
            c.due("with its party", x.with(0), NONE);
            x.hand(0);
            c.due("in its group", x.with(0), 3);
            x.fetch(0, 0);
            c.due("with its party again", x.with(0), NONE);
        });
        s.say("5", "if its AGE has one, and that has fewer than its MOST (1 to 20)", c -> {
            c.range(1, 20, 1, most -> new CampWeek().group(0, 0, 0, most));
            CampWeek x = new CampWeek();
            for (int party = 0; party < 3; party++) {
                x.party(8, 8, 0, 0, NONE);
            }
            for (int child = 0; child < 24; child++) {
                x.child(child / 8, child < 2 ? 5 : child < 23 ? 6 : 7);
            }
            x.group(0, 5, 5, 1);
            x.group(1, 6, 6, 20);
            c.due("the only place", x.hand(0), 0);
            c.due("one too many of 1", x.hand(1), FULL);
            for (int child = 2; child < 22; child++) {
                c.due("of 20: " + child, x.hand(child), 1);
            }
            c.due("one too many of 20", x.hand(22), FULL);
            c.due("no group of its age", x.hand(23), NOT);
        });
        s.say("5", "back only to its own PARTY", c -> {
            CampWeek x = new CampWeek();
            x.party(1, 1, 0, 0, NONE);
            x.party(1, 1, 0, 0, NONE);
            x.child(1, 0);
            x.group(0, 0, 0, 1);
            x.hand(0);
            c.due("another one", x.fetch(0, 0), NOT);
            c.due("its own", x.fetch(0, 1), 1);
        });
    }

    // ---- 6: paying back

    /** A camp with lines of day, notice, hundredths. */
    private static CampWeek withLines(int... lines) {
        CampWeek x = new CampWeek();
        for (int i = 0; i < lines.length; i += 3) {
            x.list(lines[i], lines[i + 1], lines[i + 2]);
        }
        return x;
    }

    private static void payingBack(Sentences s) {
        s.say("6", "from a DAY (0 to 999) on", c -> {
            c.range(0, 999, 1, day -> new CampWeek().list(day, 0, 0));
            c.due("the first day", withLines(0, 0, 7).pays(0, 0), 7);
            c.due("the last day", withLines(999, 0, 7).pays(999, 0), 7);
            c.due("the day before the last", withLines(999, 0, 7).pays(998, 0), 0);
        });
        s.say("6", "so many days' NOTICE (0 to 99)", c -> {
            c.range(0, 99, 1, notice -> new CampWeek().list(0, notice, 0));
            c.due("98 of 99", withLines(0, 99, 7).pays(0, 98), 0);
            c.due("99 of 99", withLines(0, 99, 7).pays(0, 99), 7);
        });
        s.say("6", "pays back hundredths (0 to 100)", c -> {
            c.range(0, 100, 1, part -> new CampWeek().list(0, 0, part));
            c.due("all", withLines(0, 0, 100).pays(0, 0), 100);
            c.due("nothing", withLines(0, 0, 0).pays(0, 0), 0);
        });
        s.say("6", "30 at most", c -> {
            CampWeek x = new CampWeek();
            for (int line = 0; line < 30; line++) {
                c.due("line " + line, x.list(line, 0, line + 1), line + 1);
            }
            c.due("one more", x.list(30, 0, 100), FULL);
            c.due("the last line pays", x.pays(999, 0), 30);
            c.due("the first line pays", x.pays(0, 0), 1);
        });
    }

    private static void paidByTheList(Sentences s) {
        s.say("6", "of those told for a DAY not above d, those with the latest such DAY", c -> {
            CampWeek x = withLines(20, 0, 10, 30, 0, 5, 10, 0, 90, 20, 3, 11);
            int[][] dayAndPaid = {{9, 0}, {10, 90}, {19, 90}, {20, 11}, {29, 11}, {30, 5}, {999, 5}};
            for (int[] w : dayAndPaid) {
                c.due("day " + w[0], x.pays(w[0], 3), w[1]);
            }
        });
        s.say("6", "of these the greatest hundredths whose NOTICE is not above the notice given", c -> {
            CampWeek x = withLines(0, 5, 50, 0, 10, 20, 0, 0, 10, 0, 20, 80, 0, 5, 49);
            int[][] noticeAndPaid = {{0, 10}, {4, 10}, {5, 50}, {10, 50}, {19, 50}, {20, 80}, {999, 80}};
            for (int[] w : noticeAndPaid) {
                c.due("notice " + w[0], x.pays(7, w[0]), w[1]);
            }
        });
        s.say("6", "0 without", c -> {
            c.due("no list", new CampWeek().pays(999, 999), 0);
            c.due("none so early", withLines(5, 0, 50).pays(4, 99), 0);
            c.due("none by that notice, though by the list before", withLines(5, 0, 50, 6, 9, 90).pays(6, 8), 0);
        });
    }

    // ---- 7: sheets

    private static void sheets(Sentences s) {
        s.say("7", "SHEETS 0 .. 3 are LOST (at first)", c -> {
            c.range(0, 3, -11, sheet -> new CampWeek().lose(sheet));
            c.range(0, 3, -11, sheet -> new CampWeek().put(sheet, 0, 0, 0));
        });
        s.say("7", "a row of a FORM: 0 bytes, 1 shorts, 2 ints", c -> {
            c.range(0, 2, 1, form -> new CampWeek().sheet(0, form, 1));
            int[][] formGivenAndKept = {{0, 127, 127}, {0, 128, -128}, {0, -129, 127}, {0, 511, -1},
                {1, 32767, 32767}, {1, 32768, -32768}, {1, -32769, 32767}, {1, 131071, -1},
                {2, Integer.MAX_VALUE, Integer.MAX_VALUE}, {2, LEAST_INT, LEAST_INT}};
            for (int[] w : formGivenAndKept) {
                CampWeek x = new CampWeek();
                x.sheet(0, w[0], 1);
                x.put(0, w[0], 0, w[1]);
                c.due("form " + w[0] + " of " + w[1], x.get(0, w[0], 0), w[2]);
            }
        });
        s.say("7", "of 0 to 60 items (0 at first)", c -> {
            c.due("none", new CampWeek().sheet(0, 0, 0), 0);
            c.due("60", new CampWeek().sheet(0, 0, 60), 60);
            c.due("61", new CampWeek().sheet(0, 0, 61), BAD);
            c.due("far more", new CampWeek().sheet(0, 0, Integer.MAX_VALUE), BAD);
            for (int form = 0; form <= 2; form++) {
                CampWeek x = new CampWeek();
                x.sheet(3, form, 60);
                for (int i = 0; i < 60; i++) {
                    c.due("item " + i, x.get(3, form, i), 0);
                    x.put(3, form, i, -1);
                }
                x.sheet(3, form, 60);
                for (int i = 0; i < 60; i++) {
                    c.due("item anew " + i, x.get(3, form, i), 0);
                }
            }
        });
    }

    private static void findings(Sentences s) {
        s.say("7", "FINDINGS (answers -10 less the number; they change nothing but count() 7)", c -> {
            CampWeek x = new CampWeek();
            x.sheet(0, 0, 2);
            x.sheet(1, 1, 2);
            x.put(0, 0, 1, 5);
            int[] answers = {x.lose(2), x.put(0, 0, 2, 9), x.put(0, 1, 1, 9), x.copy(1, 0, 0, 0, 2), x.sheet(0, 0, -1)};
            for (int finding = 1; finding <= 5; finding++) {
                c.due("finding " + finding, answers[finding - 1], -10 - finding);
            }
            c.due("the latest", x.count(7), 5);
            c.due("item 0", x.get(0, 0, 0), 0);
            c.due("item 1", x.get(0, 0, 1), 5);
            c.due("still the latest", x.count(7), 5);
            c.due("sheet 0 stands", x.lose(0), 2);
            c.due("sheet 2 is lost", x.lose(2), -11);
        });
        s.say("7", "1 NULL: the SHEET is LOST", c -> {
            CampWeek x = new CampWeek();
            x.sheet(0, 0, 0);
            c.due("of no items is not LOST", x.put(0, 0, 0, 0), -12);
            x.lose(0);
            c.due("LOST", x.put(0, 0, 0, 0), -11);
            c.due("count(7)", x.count(7), 1);
        });
        s.say("7", "2 INDEX: there is no such item", c -> {
            CampWeek x = new CampWeek();
            x.sheet(0, 2, 60);
            c.range(0, 59, 1, -12, i -> x.put(0, 2, i, 1));
            x.sheet(0, 2, 1);
            c.range(0, 0, 1, -12, i -> x.put(0, 2, i, 1));
            c.due("count(7)", x.count(7), 2);
        });
        s.say("7", "3 CAST: it has another FORM", c -> {
            for (int form = 0; form <= 2; form++) {
                for (int other = 0; other <= 2; other++) {
                    CampWeek x = new CampWeek();
                    x.sheet(0, form, 1);
                    c.due(form + " as " + other, x.put(0, other, 0, 1), form == other ? 1 : -13);
                    c.due("count(7)", x.count(7), form == other ? 0 : 3);
                }
            }
        });
        s.say("7", "4 STORE: unlike FORMS", c -> {
            for (int form = 0; form <= 2; form++) {
                for (int other = 0; other <= 2; other++) {
                    CampWeek x = new CampWeek();
                    x.sheet(0, form, 1);
                    x.sheet(1, other, 1);
                    c.due(form + " to " + other, x.copy(0, 0, 1, 0, 1), form == other ? 1 : -14);
                    c.due("count(7)", x.count(7), form == other ? 0 : 4);
                }
            }
        });
        s.say("7", "5 SIZE: below 0", c -> {
            CampWeek x = new CampWeek();
            c.due("-1", x.sheet(0, 0, -1), -15);
            c.due("the least", x.sheet(0, 0, LEAST_INT), -15);
            c.due("count(7)", x.count(7), 5);
            c.due("0 is none", x.sheet(0, 0, 0), 0);
        });
    }
}
