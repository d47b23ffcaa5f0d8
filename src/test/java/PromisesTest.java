/** Each promise by its number: ordinary inputs, the edges that the document names, and wrong inputs. */
public final class PromisesTest {
    private static final int NONE = CampWeek.NONE;
    private static final int BAD = CampWeek.BAD;
    private static final int NOT = CampWeek.NOT;
    private static final int FULL = CampWeek.FULL;
    private static final int NULL = -11;
    private static final int INDEX = -12;
    private static final int CAST = -13;
    private static final int STORE = -14;
    private static final int SIZE = -15;

    private static final Check check = new Check("PromisesTest");

    private PromisesTest() {
    }

    public static void main(String[] args) {
        constants();
        newObject();
        huts();
        parties();
        tellings();
        tellingApartOfLodged();
        lodgingByDearness();
        lodgingBesideNext();
        lodgingApart();
        lodgingByMoving();
        lodgingMovesTheFirst();
        movingKeepsApart();
        movedBesideNext();
        moved();
        leaving();
        about();
        whoIsIn();
        emptyBeds();
        seats();
        sittingsAsEven();
        sittingsFirstWay();
        sittingsOfFullCamp();
        more();
        foretelling();
        cooking();
        bookIsFull();
        halls();
        shows();
        wishes();
        wetHours();
        places();
        crowds();
        crowdsShareRoom();
        turnedAway();
        groups();
        children();
        handing();
        fetching();
        lists();
        paying();
        sheets();
        losing();
        puttingAndGetting();
        copying();
        counting();
        digests();
        fullCamp();
        fullCampAtShows();
        check.end();
    }

    private static void due(String call, long got, long want) {
        check.due(call, got, want);
    }

    private static void constants() {
        due("NONE", CampWeek.NONE, -1);
        due("BAD", CampWeek.BAD, -2);
        due("NOT", CampWeek.NOT, -3);
        due("FULL", CampWeek.FULL, -4);
    }

    private static void newObject() {
        CampWeek x = new CampWeek();
        for (int what = 0; what <= 7; what++) {
            due("1 count(" + what + ")", x.count(what), 0);
        }
        for (int s = 0; s <= 3; s++) {
            due("1 lose(" + s + ")", x.lose(s), NULL);
        }
        due("1 about(0, 0)", x.about(0, 0), BAD);
        due("1 in(0, 0)", x.in(0, 0), BAD);
        due("1 where(0)", x.where(0), BAD);
        due("1 with(0)", x.with(0), BAD);
        due("1 line(0, 0)", x.line(0, 0), BAD);
        due("1 moved()", x.moved(), NONE);
        due("1 empty(0)", x.empty(0), 0);
        due("1 apart(9)", x.apart(9), 0);
        due("1 pays(999, 999)", x.pays(999, 999), 0);
        due("1 wet(39)", x.wet(39), 0);
    }

    private static void huts() {
        CampWeek x = new CampWeek();
        due("2 hut(-1, 1)", x.hut(-1, 1), BAD);
        due("2 hut(6, 1)", x.hut(6, 1), BAD);
        due("2 hut(0, 0)", x.hut(0, 0), BAD);
        due("2 hut(0, 9)", x.hut(0, 9), BAD);
        for (int i = 0; i < 30; i++) {
            due("2 hut number " + i, x.hut(i % 6, 1 + i % 8), i);
        }
        due("2 hut beyond 30", x.hut(0, 1), FULL);
        due("2 BAD before FULL", x.hut(0, 0), BAD);
        due("2 count(0)", x.count(0), 30);
    }

    private static void parties() {
        CampWeek x = new CampWeek();
        due("3 size 0", x.party(0, 0, 0, 0, 0), BAD);
        due("3 size 9", x.party(9, 0, 0, 0, 0), BAD);
        due("3 children -1", x.party(3, -1, 0, 0, 0), BAD);
        due("3 children above size", x.party(3, 4, 0, 0, 0), BAD);
        due("3 from -1", x.party(3, 0, -1, 0, 0), BAD);
        due("3 to 10", x.party(3, 0, 0, 10, 0), BAD);
        due("3 from above to", x.party(3, 0, 5, 4, 0), BAD);
        due("3 table -2", x.party(3, 0, 0, 0, -2), BAD);
        due("3 table 10", x.party(3, 0, 0, 0, 10), BAD);
        due("3 count(1)", x.count(1), 0);
        due("3 edges", x.party(8, 8, 0, 9, 9), 0);
        for (int i = 1; i < 24; i++) {
            due("3 party number " + i, x.party(1, 0, 9, 9, NONE), i);
        }
        due("3 party beyond 24", x.party(1, 0, 0, 0, 0), FULL);
        due("3 BAD before FULL", x.party(1, 2, 0, 0, 0), BAD);
        due("3 not lodged", x.count(2), 0);
    }

    private static void tellings() {
        CampWeek x = new CampWeek();
        x.party(1, 0, 0, 0, NONE);
        x.party(1, 0, 0, 0, NONE);
        due("4 tell(0, 1, 2)", x.tell(0, 1, 2), 2);
        due("4 tell(0, 1, 0)", x.tell(0, 1, 0), 2);
        due("4 told both ways", x.tell(1, 0, 1), 0);
        due("4 tell(0, 1, 2) again", x.tell(0, 1, 2), 1);
        due("4 tell(0, 1, 2) once more", x.tell(0, 1, 2), 2);
        due("4 one twice", x.tell(0, 0, 0), BAD);
        due("4 no such a", x.tell(-1, 0, 0), BAD);
        due("4 no such a", x.tell(2, 0, 0), BAD);
        due("4 no such b", x.tell(0, 2, 0), BAD);
        due("4 no such b", x.tell(0, -1, 0), BAD);
        due("4 kind -1", x.tell(0, 1, -1), BAD);
        due("4 kind 3", x.tell(0, 1, 3), BAD);
    }

    private static void tellingApartOfLodged() {
        CampWeek x = Camps.ofHuts(2, 2);
        x.hut(1, 2);
        x.party(1, 0, 0, 3, NONE);
        x.party(1, 0, 3, 4, NONE);
        x.party(1, 0, 4, 4, NONE);
        x.lodge(0);
        due("4 apart, one of them lodged", x.tell(0, 1, 1), 2);
        due("4 told NEXT instead", x.tell(0, 1, 0), 1);
        x.lodge(1);
        x.lodge(2);
        due("4 in one row in week 3", x.tell(0, 1, 1), NOT);
        due("4 the same the other way", x.tell(1, 0, 1), NOT);
        due("4 what they are stays", x.tell(1, 0, 0), 0);
        due("4 neither is no refusal", x.tell(1, 0, 2), 0);
        due("4 in one row, no week together", x.tell(0, 2, 1), 2);
        due("4 BAD before NOT", x.tell(0, 1, 4), BAD);
        x.leave(1);
        due("4 one of them left", x.tell(0, 1, 1), 2);
        due("4 then in another row", x.lodge(1), 2);
        due("4 apart again, in two rows", x.tell(1, 0, 1), 1);
    }

    private static void lodgingByDearness() {
        CampWeek x = new CampWeek();
        x.hut(0, 8);
        x.hut(0, 4);
        x.hut(1, 3);
        x.hut(2, 3);
        x.hut(3, 2);
        for (int i = 0; i < 6; i++) {
            x.party(3, 0, 2, 4, NONE);
        }
        x.party(3, 0, 5, 9, NONE);
        due("5 lodge(-1)", x.lodge(-1), BAD);
        due("5 lodge(7)", x.lodge(7), BAD);
        due("5 fewest beds left, least number", x.lodge(0), 2);
        due("5 the next one alike", x.lodge(1), 3);
        due("5 lodged already", x.lodge(1), NOT);
        due("5 one bed left over", x.lodge(2), 1);
        due("5 the largest", x.lodge(3), 0);
        due("5 none has beds", x.lodge(4), NONE);
        due("5 not lodged then", x.about(4, 5), NONE);
        due("5 other weeks are free", x.lodge(6), 2);
    }

    private static void lodgingBesideNext() {
        CampWeek x = new CampWeek();
        x.hut(0, 2);
        x.hut(1, 8);
        x.hut(1, 7);
        x.hut(1, 2);
        x.party(8, 0, 0, 2, NONE);
        x.party(2, 0, 2, 5, NONE);
        x.party(2, 0, 3, 5, NONE);
        x.tell(1, 0, 0);
        x.tell(2, 0, 0);
        x.party(7, 0, 0, 9, NONE);
        x.party(2, 0, 0, 9, NONE);
        x.lodge(0);
        due("5 hut of exact size in row 0", x.lodge(4), 0);
        due("5 row of its NEXT, fewest beds", x.lodge(1), 3);
        x.leave(1);
        x.leave(4);
        x.hut(2, 1);
        due("5 NEXT counts more than beds left", x.lodge(1), 3);
        due("5 NEXT without a week together counts nothing", x.lodge(2), 0);
        x.leave(1);
        x.lodge(4);
        due("5 party 4 takes hut 3", x.about(4, 5), 3);
        x.leave(2);
        due("5 five beds left over beside NEXT", x.lodge(1), 2);
    }

    private static void lodgingApart() {
        CampWeek x = new CampWeek();
        x.hut(0, 2);
        x.hut(0, 2);
        x.hut(1, 8);
        x.party(2, 0, 0, 2, NONE);
        x.party(2, 0, 2, 3, NONE);
        x.party(2, 0, 3, 3, NONE);
        x.tell(0, 1, 1);
        x.tell(2, 0, 1);
        due("5 first", x.lodge(0), 0);
        due("5 APART in week 2: another row", x.lodge(1), 2);
        due("5 APART without a week together", x.lodge(2), 0);
    }

    private static void lodgingByMoving() {
        CampWeek x = new CampWeek();
        x.hut(0, 4);
        x.hut(1, 2);
        x.hut(2, 3);
        x.party(2, 0, 0, 1, NONE);
        x.party(2, 0, 0, 0, NONE);
        x.party(4, 0, 0, 0, NONE);
        x.lodge(0);
        due("5 three beds for two", x.lodge(1), 2);
        x.party(1, 0, 0, 0, NONE);
        due("5 party 3 takes the largest", x.lodge(3), 0);
        due("5 nowhere to move to", x.lodge(2), NONE);
        due("6 nobody moved", x.moved(), NONE);
        x.leave(1);
        due("5 the one there moves", x.lodge(2), 0);
        due("6 moved()", x.moved(), 3);
        due("5 to the dearest hut", x.about(3, 5), 2);
        due("5 NONE: none", x.lodge(1), NONE);
        due("6 stays as it was", x.moved(), 3);
        due("5 all stay where they were", x.about(3, 5), 2);
        due("5 all stay where they were", x.about(2, 5), 0);
        due("5 all stay where they were", x.about(0, 5), 1);
    }

    private static void lodgingMovesTheFirst() {
        CampWeek x = new CampWeek();
        x.hut(0, 5);
        x.hut(1, 5);
        x.party(5, 0, 0, 0, NONE);
        x.party(3, 0, 0, 0, NONE);
        x.party(3, 0, 0, 0, NONE);
        due("5 lodge(2)", x.lodge(2), 0);
        due("5 lodge(1)", x.lodge(1), 1);
        x.hut(2, 3);
        due("5 the first by number moves", x.lodge(0), 1);
        due("6 moved()", x.moved(), 1);
        due("5 its new hut", x.about(1, 5), 2);
        due("5 the other one stays", x.about(2, 5), 0);
    }

    private static void movingKeepsApart() {
        CampWeek x = new CampWeek();
        x.hut(0, 2);
        x.hut(1, 2);
        x.party(2, 0, 0, 0, NONE);
        x.party(2, 0, 0, 0, NONE);
        x.lodge(0);
        x.lodge(1);
        x.party(2, 0, 0, 0, NONE);
        x.tell(2, 1, 1);
        x.hut(1, 4);
        due("5 party 0 moves, not beside APART", x.lodge(2), 0);
        due("5 it went to row 1", x.about(0, 5), 2);

        CampWeek y = new CampWeek();
        y.hut(0, 2);
        y.hut(0, 2);
        y.party(2, 0, 0, 0, NONE);
        y.party(2, 0, 0, 0, NONE);
        y.tell(0, 1, 1);
        y.lodge(0);
        due("5 the moved one may not come beside it", y.lodge(1), NONE);
        y.hut(3, 2);
        y.party(2, 0, 0, 0, NONE);
        due("5 party 2 takes the row's other hut", y.lodge(2), 1);
        y.party(2, 0, 0, 0, NONE);
        due("5 party 3 takes row 3", y.lodge(3), 2);
        due("5 nobody can move", y.lodge(1), NONE);
        y.leave(2);
        due("5 party 3 moves out of row 3", y.lodge(1), 2);
        due("6 moved()", y.moved(), 3);
        due("5 to row 0", y.about(3, 5), 1);
    }

    private static void movedBesideNext() {
        CampWeek x = new CampWeek();
        x.hut(0, 4);
        x.party(2, 0, 0, 0, NONE);
        x.party(4, 0, 0, 0, NONE);
        x.tell(0, 1, 0);
        x.lodge(0);
        x.hut(1, 2);
        x.hut(0, 3);
        due("5 the new one gets hut 0", x.lodge(1), 0);
        due("5 the moved one goes beside it", x.about(0, 5), 2);
    }

    private static void moved() {
        CampWeek x = new CampWeek();
        x.hut(0, 4);
        x.party(2, 0, 0, 0, NONE);
        x.party(4, 0, 0, 0, NONE);
        x.party(1, 0, 3, 3, NONE);
        x.lodge(0);
        x.hut(0, 2);
        x.lodge(1);
        due("6 party 0 was moved", x.moved(), 0);
        x.leave(0);
        due("6 leave changes nothing", x.moved(), 0);
        due("6 lodge(2)", x.lodge(2), 1);
        due("6 nobody by the latest", x.moved(), NONE);
    }

    private static void leaving() {
        CampWeek x = Camps.ofHuts(3, 2);
        x.party(2, 0, 0, 0, NONE);
        x.party(2, 0, 0, 0, NONE);
        x.lodge(0);
        x.lodge(1);
        due("7 leave(-1)", x.leave(-1), BAD);
        due("7 leave(2)", x.leave(2), BAD);
        due("7 the hut it had", x.leave(1), 1);
        due("7 not lodged", x.leave(1), NOT);
        due("7 count(2)", x.count(2), 1);
        due("7 leave(0)", x.leave(0), 0);
        due("7 its hut is free", x.in(0, 0), NONE);
    }

    private static void about() {
        CampWeek x = Camps.ofHuts(2, 8);
        x.party(7, 3, 2, 5, 9);
        x.party(1, 0, 0, 9, NONE);
        x.lodge(1);
        x.lodge(0);
        int[] want = {7, 3, 2, 5, 9, 1};
        for (int what = 0; what < want.length; what++) {
            due("8 about(0, " + what + ")", x.about(0, what), want[what]);
        }
        due("8 no table", x.about(1, 4), NONE);
        x.leave(0);
        due("8 no hut", x.about(0, 5), NONE);
        due("8 about(0, -1)", x.about(0, -1), BAD);
        due("8 about(0, 6)", x.about(0, 6), BAD);
        due("8 about(-1, 0)", x.about(-1, 0), BAD);
        due("8 about(2, 0)", x.about(2, 0), BAD);
    }

    private static void whoIsIn() {
        CampWeek x = Camps.ofHuts(2, 2);
        x.party(2, 0, 2, 4, NONE);
        x.party(2, 0, 5, 9, NONE);
        x.lodge(0);
        x.lodge(1);
        due("9 week before", x.in(0, 1), NONE);
        due("9 first week", x.in(0, 2), 0);
        due("9 last week", x.in(0, 4), 0);
        due("9 the next party", x.in(0, 5), 1);
        due("9 to the end", x.in(0, 9), 1);
        due("9 another hut", x.in(1, 3), NONE);
        due("9 in(2, 0)", x.in(2, 0), BAD);
        due("9 in(-1, 0)", x.in(-1, 0), BAD);
        due("9 in(0, -1)", x.in(0, -1), BAD);
        due("9 in(0, 10)", x.in(0, 10), BAD);
    }

    private static void emptyBeds() {
        CampWeek x = new CampWeek();
        x.hut(0, 8);
        x.hut(1, 5);
        x.hut(2, 3);
        x.party(4, 0, 1, 2, NONE);
        due("10 all", x.empty(1), 16);
        x.lodge(0);
        due("10 without a whole hut", x.empty(1), 11);
        due("10 the last week", x.empty(2), 11);
        due("10 the week before", x.empty(0), 16);
        due("10 the week after", x.empty(3), 16);
        due("10 empty(-1)", x.empty(-1), BAD);
        due("10 empty(10)", x.empty(10), BAD);
    }

    private static void seats() {
        CampWeek x = Camps.with(8, 8, 8);
        due("11 60 at first: apart", x.apart(0), 8);
        due("11 seats(-1, 0)", x.seats(-1, 0), BAD);
        due("11 seats(0, -1)", x.seats(0, -1), BAD);
        due("11 seats(201, 0)", x.seats(201, 0), BAD);
        due("11 seats(0, 201)", x.seats(0, 201), BAD);
        due("11 refusals change nothing", x.apart(0), 8);
        due("11 seats(200, 0)", x.seats(200, 0), 1);
        due("11 all in sitting 0", x.apart(0), 24);
        due("11 seats(0, 200)", x.seats(0, 200), 1);
        due("11 all in sitting 1", x.sits(0, 0), 1);
        due("11 seats(0, 0)", x.seats(0, 0), 1);
        due("11 no way", x.apart(0), NONE);
        due("11 nobody needs a seat", x.apart(1), 0);
        due("11 seats(24, 0)", x.seats(24, 0), 1);
        due("11 just enough", x.apart(0), 24);
        due("11 seats(23, 0)", x.seats(23, 0), 1);
        due("11 one too few", x.apart(0), NONE);
        CampWeek y = Camps.full(5);
        due("11 60 and 60 at first", y.apart(0), 0);
        y.leave(0);
        y.party(6, 0, 0, 0, NONE);
        y.seats(60, 55);
        due("11 60 and 55", y.apart(0), 5);
    }

    private static void sittingsAsEven() {
        CampWeek x = Camps.with(8, 3, 3, 2);
        due("12 8 against 3 + 3 + 2", x.apart(0), 0);
        due("12 apart(-1)", x.apart(-1), BAD);
        due("12 apart(10)", x.apart(10), BAD);
        due("12 SITTING 0 first", x.sits(0, 0), 0);
        due("13 the others", x.sits(1, 0), 1);
        x.leave(3);
        due("12 8 against 6", x.apart(0), 2);
        due("13 not there any more", x.sits(3, 0), NONE);
        x.seats(7, 60);
        due("12 8 goes into sitting 1", x.apart(0), 2);
        due("13 by seats", x.sits(0, 0), 1);
        due("13 by seats", x.sits(2, 0), 0);
        due("13 another week", x.sits(0, 1), NONE);
        due("13 sits(4, 0)", x.sits(4, 0), BAD);
        due("13 sits(-1, 0)", x.sits(-1, 0), BAD);
        due("13 sits(0, -1)", x.sits(0, -1), BAD);
        due("13 sits(0, 10)", x.sits(0, 10), BAD);
        x.seats(7, 7);
        due("12 no way", x.apart(0), NONE);
        due("13 no way", x.sits(0, 0), NONE);

        CampWeek y = Camps.with(new int[] {4, 3, 4, 3}, new int[] {0, 1, 0, 1});
        due("12 tables kept together", y.apart(0), 2);
        due("13 table 0", y.sits(0, 0), 0);
        due("13 table 0", y.sits(2, 0), 0);
        due("13 table 1", y.sits(1, 0), 1);
        due("13 table 1", y.sits(3, 0), 1);
    }

    private static void sittingsFirstWay() {
        CampWeek x = Camps.with(2, 2, 1, 1);
        due("12 even", x.apart(0), 0);
        int[] want = {0, 1, 0, 1};
        for (int party = 0; party < 4; party++) {
            due("13 first party that differs: " + party, x.sits(party, 0), want[party]);
        }
        CampWeek y = Camps.with(new int[] {1, 3, 2, 2}, new int[] {NONE, 5, NONE, 5});
        due("12 3 against 5", y.apart(0), 2);
        due("13 party 0", y.sits(0, 0), 0);
        due("13 party 1", y.sits(1, 0), 1);
        due("13 party 2", y.sits(2, 0), 0);
        due("13 party 3", y.sits(3, 0), 1);
        CampWeek z = Camps.with(1, 2);
        due("12 of two numbers like ones", z.apart(0), 1);
        due("13 party 0 first", z.sits(0, 0), 0);
        z.seats(1, 2);
        due("13 seats allow it", z.sits(0, 0), 0);
        z.seats(2, 1);
        due("13 seats do not", z.sits(0, 0), 1);
    }

    private static void sittingsOfFullCamp() {
        CampWeek x = Camps.ofHuts(24, 8);
        for (int party = 0; party < 24; party++) {
            x.party(8, 4, 0, 9, NONE);
            x.lodge(party);
        }
        due("12 192 people, 120 seats", x.apart(0), NONE);
        x.seats(200, 200);
        due("12 even", x.apart(0), 0);
        due("13 the 12th", x.sits(11, 9), 0);
        due("13 the 13th", x.sits(12, 9), 1);
        x.seats(96, 96);
        due("12 just enough", x.apart(0), 0);
        x.seats(95, 200);
        due("12 one less", x.apart(0), 16);
        x.seats(0, 192);
        due("12 all in sitting 1", x.apart(0), 192);
        due("15 24 times 4 and half of 96", x.foretell(9, 1), 144);
        due("15 nobody", x.foretell(9, 0), 0);
    }

    private static void more() {
        CampWeek x = new CampWeek();
        due("14 10 at first", x.more(50), 10);
        due("14 more(51)", x.more(51), BAD);
        due("14 more(-1)", x.more(-1), BAD);
        due("14 what it was", x.more(0), 50);
        due("14 what it was", x.more(0), 0);
    }

    private static void foretelling() {
        CampWeek x = Camps.ofHuts(3, 8);
        x.party(5, 3, 0, 0, 1);
        x.party(4, 1, 0, 0, 1);
        x.party(8, 5, 0, 0, NONE);
        for (int party = 0; party < 3; party++) {
            x.lodge(party);
        }
        due("15 5 grown and half of 4", x.foretell(0, 0), 7);
        due("15 3 grown and half of 5, cut", x.foretell(0, 1), 5);
        due("15 an empty week", x.foretell(1, 0), 0);
        due("15 foretell(-1, 0)", x.foretell(-1, 0), BAD);
        due("15 foretell(10, 0)", x.foretell(10, 0), BAD);
        due("15 foretell(0, -1)", x.foretell(0, -1), BAD);
        due("15 foretell(0, 2)", x.foretell(0, 2), BAD);
        x.seats(8, 8);
        due("15 no way", x.foretell(0, 0), NONE);
    }

    private static void cooking() {
        CampWeek x = Camps.with(new int[] {8, 8, 3}, new int[] {1, 1, 2});
        due("15 foretell(0, 0)", x.foretell(0, 0), 16);
        due("16 17 cooked, cut", x.cook(0, 0, 10), 7);
        due("16 nothing left", x.cook(0, 0, 17), 0);
        due("16 SHORT by one", x.cook(0, 0, 18), -1001);
        due("16 SHORT by 497", x.cook(0, 1, 500), -1497);
        due("16 nobody comes", x.cook(0, 1, 0), 3);
        x.more(50);
        due("16 4 cooked of 3", x.cook(0, 1, 4), 0);
        due("16 cook(-1, 0, 0)", x.cook(-1, 0, 0), BAD);
        due("16 cook(10, 0, 0)", x.cook(10, 0, 0), BAD);
        due("16 cook(0, 2, 0)", x.cook(0, 2, 0), BAD);
        due("16 cook(0, -1, 0)", x.cook(0, -1, 0), BAD);
        due("16 cook(0, 0, -1)", x.cook(0, 0, -1), BAD);
        due("16 cook(0, 0, 501)", x.cook(0, 0, 501), BAD);
        x.seats(3, 3);
        due("16 no way", x.cook(0, 0, 0), NOT);
        due("16 BAD before NOT", x.cook(0, 0, 501), BAD);
        due("16 an empty week", x.cook(7, 1, 2), -1002);
        due("16 count(5)", x.count(5), 7);
        int[][] want = {{0, 0, 16, 17, 10}, {0, 0, 16, 17, 17}, {0, 0, 16, 17, 18}, {0, 1, 3, 3, 500},
            {0, 1, 3, 3, 0}, {0, 1, 3, 4, 4}, {7, 1, 0, 0, 2}};
        for (int i = 0; i < want.length; i++) {
            for (int what = 0; what < 5; what++) {
                due("17 line(" + i + ", " + what + ")", x.line(i, what), want[i][what]);
            }
        }
        due("17 line(7, 0)", x.line(7, 0), BAD);
        due("17 line(-1, 0)", x.line(-1, 0), BAD);
        due("17 line(0, -1)", x.line(0, -1), BAD);
        due("17 line(0, 5)", x.line(0, 5), BAD);
    }

    private static void bookIsFull() {
        CampWeek x = Camps.with(5);
        for (int i = 0; i < 40; i++) {
            due("16 line " + i, x.cook(0, 0, i), i > 5 ? -1000 - (i - 5) : 5 - i);
        }
        due("16 beyond 40", x.cook(0, 0, 0), FULL);
        due("16 BAD before FULL", x.cook(0, 2, 0), BAD);
        x.seats(0, 0);
        due("16 NOT before FULL", x.cook(0, 0, 0), NOT);
        due("16 count(5)", x.count(5), 40);
        due("17 line(39, 4)", x.line(39, 4), 39);
        due("17 line(40, 4)", x.line(40, 4), BAD);
    }

    private static void halls() {
        CampWeek x = new CampWeek();
        due("18 0 at first", x.hall(0, 500), 0);
        due("18 what it was", x.hall(0, 0), 500);
        due("18 the last hall", x.hall(5, 7), 0);
        due("18 hall(6, 0)", x.hall(6, 0), BAD);
        due("18 hall(-1, 0)", x.hall(-1, 0), BAD);
        due("18 hall(0, -1)", x.hall(0, -1), BAD);
        due("18 hall(0, 501)", x.hall(0, 501), BAD);
        due("18 hall(5, 8)", x.hall(5, 8), 7);
    }

    private static void shows() {
        CampWeek x = new CampWeek();
        due("19 hall -2", x.show(-2, 0, -1), BAD);
        due("19 hall 6", x.show(6, 0, -1), BAD);
        due("19 hour -1", x.show(0, -1, -1), BAD);
        due("19 hour 40", x.show(0, 40, -1), BAD);
        due("19 wet -2", x.show(-1, 0, -2), BAD);
        due("19 wet 6", x.show(-1, 0, 6), BAD);
        due("19 in a hall and wet", x.show(0, 0, 0), BAD);
        for (int i = 0; i < 12; i++) {
            due("19 show number " + i, x.show(i % 2 == 0 ? 5 : -1, 39 - i, i % 2 == 0 ? -1 : 5), i);
        }
        due("19 beyond 12", x.show(0, 0, -1), FULL);
        due("19 BAD before FULL", x.show(0, 0, 3), BAD);
        due("19 count(3)", x.count(3), 12);
    }

    private static void wishes() {
        CampWeek x = new CampWeek();
        x.party(1, 0, 0, 0, NONE);
        x.party(1, 0, 0, 0, NONE);
        for (int i = 0; i < 8; i++) {
            x.show(-1, i, -1);
        }
        for (int i = 0; i < 6; i++) {
            due("20 wish " + i, x.wish(0, i), i + 1);
        }
        due("20 beyond 6", x.wish(0, 6), FULL);
        due("20 one that is there: BAD before FULL", x.wish(0, 5), BAD);
        due("20 another party", x.wish(1, 5), 1);
        due("20 one that is there", x.wish(1, 5), BAD);
        due("20 one more", x.wish(1, 0), 2);
        due("20 wish(2, 0)", x.wish(2, 0), BAD);
        due("20 wish(-1, 0)", x.wish(-1, 0), BAD);
        due("20 wish(1, 8)", x.wish(1, 8), BAD);
        due("20 wish(1, -1)", x.wish(1, -1), BAD);
    }

    private static void wetHours() {
        CampWeek x = new CampWeek();
        due("21 no sheet", x.wet(0), 0);
        x.sheet(1, 0, 60);
        x.put(1, 0, 0, 9);
        due("21 another sheet", x.wet(0), 0);
        x.sheet(0, 1, 12);
        due("21 items are 0", x.wet(3), 0);
        x.put(0, 1, 3, 1);
        for (int hour = 0; hour < 16; hour++) {
            due("21 wet(" + hour + ")", x.wet(hour), hour >= 3 && hour <= 7 ? 1 : 0);
        }
        x.put(0, 1, 11, 1);
        due("21 the next day: before", x.wet(10), 0);
        due("21 its hour, the last item", x.wet(11), 1);
        due("21 beyond the items, the same day", x.wet(15), 1);
        due("21 the day after", x.wet(16), 0);
        x.put(0, 1, 3, -1);
        due("21 below 0", x.wet(3), 0);
        x.put(0, 1, 3, 32768);
        due("21 a short below 0", x.wet(4), 0);
        x.put(0, 1, 3, 32767);
        due("21 the greatest short", x.wet(4), 1);
        x.lose(0);
        due("21 lost", x.wet(4), 0);
        x.sheet(0, 0, 40);
        due("21 a new one is 0", x.wet(4), 0);
        x.put(0, 0, 39, 1);
        due("21 the last hour", x.wet(39), 1);
        due("21 the hour before", x.wet(38), 0);
        x.put(0, 0, 32, 1);
        due("21 the day's first hour", x.wet(38), 1);
        due("21 the hour before it", x.wet(31), 0);
        due("21 wet(-1)", x.wet(-1), BAD);
        due("21 wet(40)", x.wet(40), BAD);
        x.sheet(0, 2, 3);
        due("21 fewer items", x.wet(39), 0);
        x.sheet(0, 2, 17);
        x.put(0, 2, 16, 1);
        due("21 wet(16)", x.wet(16), 1);
        x.sheet(0, 2, 16);
        due("21 the item is there no more", x.wet(16), 0);
    }

    private static void places() {
        CampWeek x = new CampWeek();
        x.show(4, 2, -1);
        x.show(-1, 2, 3);
        x.show(-1, 2, -1);
        x.show(-1, 1, 3);
        due("22 a hall", x.where(0), 4);
        due("22 OUTDOORS", x.where(1), 6);
        due("22 OUTDOORS", x.where(2), 6);
        x.sheet(0, 2, 2);
        x.put(0, 2, 1, 1);
        due("22 a hall stays", x.where(0), 4);
        due("22 the hall for wet hours, later that day", x.where(1), 3);
        due("22 falls out", x.where(2), NONE);
        due("22 at the hour of the rain", x.where(3), 3);
        x.put(0, 2, 1, 0);
        due("22 dry again", x.where(2), 6);
        due("22 where(4)", x.where(4), BAD);
        due("22 where(-1)", x.where(-1), BAD);
    }

    private static void crowds() {
        CampWeek x = Camps.ofHuts(3, 8);
        x.party(6, 0, 0, 1, NONE);
        x.party(5, 0, 1, 1, NONE);
        x.party(4, 0, 1, 2, NONE);
        x.hall(0, 10);
        x.show(0, 5, -1);
        x.show(-1, 5, -1);
        x.show(0, 6, -1);
        for (int party = 0; party < 3; party++) {
            x.wish(party, 2);
            x.wish(party, 0);
            x.wish(party, 1);
        }
        due("23 not lodged", x.goes(0, 0, 5), NONE);
        x.lodge(2);
        x.lodge(0);
        x.lodge(1);
        due("23 dearest at that hour", x.goes(0, 1, 5), 0);
        due("23 no room for 5", x.goes(1, 1, 5), 1);
        due("23 room for 4", x.goes(2, 1, 5), 0);
        due("23 the other hour", x.goes(0, 1, 6), 2);
        due("23 no show at that hour", x.goes(0, 1, 7), NONE);
        due("23 not there in that week", x.goes(1, 0, 5), NONE);
        due("25 10 of 10", x.crowd(0, 1), 10);
        due("25 outdoors", x.crowd(1, 1), 5);
        due("25 week 2", x.crowd(0, 2), 4);
        due("25 week 3", x.crowd(0, 3), 0);
        x.put(0, 0, 5, 1);
        x.sheet(0, 0, 8);
        x.put(0, 0, 0, 1);
        due("23 falls out", x.goes(1, 1, 5), NONE);
        due("25 falls out", x.crowd(1, 1), 0);
        due("24 turned away from one", x.turned(1, 1, 5), 1);
        due("23 goes(3, 0, 0)", x.goes(3, 0, 0), BAD);
        due("23 goes(-1, 0, 0)", x.goes(-1, 0, 0), BAD);
        due("23 goes(0, 10, 0)", x.goes(0, 10, 0), BAD);
        due("23 goes(0, -1, 0)", x.goes(0, -1, 0), BAD);
        due("23 goes(0, 0, 40)", x.goes(0, 0, 40), BAD);
        due("23 goes(0, 0, -1)", x.goes(0, 0, -1), BAD);
        due("25 crowd(3, 0)", x.crowd(3, 0), BAD);
        due("25 crowd(-1, 0)", x.crowd(-1, 0), BAD);
        due("25 crowd(0, 10)", x.crowd(0, 10), BAD);
        due("25 crowd(0, -1)", x.crowd(0, -1), BAD);
    }

    private static void crowdsShareRoom() {
        CampWeek x = Camps.ofHuts(3, 8);
        for (int party = 0; party < 3; party++) {
            x.party(4, 0, 0, 0, NONE);
            x.lodge(party);
        }
        x.hall(2, 8);
        x.show(2, 8, -1);
        x.show(2, 8, -1);
        x.show(-1, 8, 2);
        x.wish(0, 0);
        x.wish(1, 2);
        x.wish(2, 1);
        due("23 two shows share a hall", x.goes(2, 0, 8), 1);
        x.sheet(0, 0, 9);
        x.put(0, 0, 8, 1);
        due("22 the third comes in", x.where(2), 2);
        due("23 first by number", x.goes(0, 0, 8), 0);
        due("23 then the one from outdoors", x.goes(1, 0, 8), 2);
        due("23 no room left", x.goes(2, 0, 8), NONE);
        due("24 turned away", x.turned(2, 0, 8), 1);
        due("25 crowd(2, 0)", x.crowd(2, 0), 4);
        due("25 crowd(1, 0)", x.crowd(1, 0), 0);
        x.leave(0);
        due("23 who left makes room", x.goes(2, 0, 8), 1);
    }

    private static void turnedAway() {
        CampWeek x = Camps.ofHuts(2, 8);
        x.party(5, 0, 0, 0, NONE);
        x.hall(0, 4);
        x.hall(1, 5);
        x.show(0, 3, -1);
        x.show(-1, 3, 5);
        x.show(1, 3, -1);
        x.show(0, 4, -1);
        x.show(-1, 3, -1);
        for (int show : new int[] {3, 0, 1, 4, 2}) {
            x.wish(0, show);
        }
        due("24 not there", x.turned(0, 0, 3), 0);
        x.lodge(0);
        due("23 goes outdoors", x.goes(0, 0, 3), 1);
        due("24 from the dearer one alone", x.turned(0, 0, 3), 1);
        x.sheet(0, 0, 4);
        x.put(0, 0, 3, 1);
        due("23 goes to hall 1", x.goes(0, 0, 3), 2);
        due("24 from hall 0 and hall 5, not from what falls out", x.turned(0, 0, 3), 2);
        x.hall(1, 4);
        due("23 nowhere", x.goes(0, 0, 3), NONE);
        due("24 from all three", x.turned(0, 0, 3), 3);
        due("24 hour 4", x.turned(0, 0, 4), 1);
        due("24 hour 5", x.turned(0, 0, 5), 0);
        due("24 week 1", x.turned(0, 1, 3), 0);
        due("24 turned(1, 0, 0)", x.turned(1, 0, 0), BAD);
        due("24 turned(-1, 0, 0)", x.turned(-1, 0, 0), BAD);
        due("24 turned(0, 10, 0)", x.turned(0, 10, 0), BAD);
        due("24 turned(0, -1, 0)", x.turned(0, -1, 0), BAD);
        due("24 turned(0, 0, 40)", x.turned(0, 0, 40), BAD);
        due("24 turned(0, 0, -1)", x.turned(0, 0, -1), BAD);
    }

    private static void groups() {
        CampWeek x = new CampWeek();
        due("26 group(-1, 0, 1, 1)", x.group(-1, 0, 1, 1), BAD);
        due("26 group(4, 0, 1, 1)", x.group(4, 0, 1, 1), BAD);
        due("26 from -1", x.group(0, -1, 1, 1), BAD);
        due("26 to 18", x.group(0, 0, 18, 1), BAD);
        due("26 from above to", x.group(0, 2, 1, 1), BAD);
        due("26 most 0", x.group(0, 0, 1, 0), BAD);
        due("26 most 21", x.group(0, 0, 1, 21), BAD);
        due("26 group(0, 4, 8, 20)", x.group(0, 4, 8, 20), 1);
        due("26 the same ages again", x.group(0, 5, 8, 1), 1);
        due("26 age 4 is free again", x.group(1, 0, 4, 1), 1);
        due("26 an age of another one", x.group(2, 8, 9, 1), BAD);
        due("26 an age of another one", x.group(2, 0, 17, 1), BAD);
        due("26 an age of another one", x.group(2, 6, 7, 1), BAD);
        due("26 the oldest of another one", x.group(2, 8, 17, 1), BAD);
        due("26 the youngest of another one", x.group(1, 2, 5, 1), BAD);
        due("26 the rest", x.group(3, 9, 17, 1), 1);
        x.party(8, 8, 0, 0, NONE);
        x.child(0, 6);
        x.hand(0);
        due("26 a child is in it", x.group(0, 5, 8, 2), NOT);
        due("26 BAD before NOT", x.group(0, 4, 8, 2), BAD);
        due("26 another group", x.group(1, 0, 3, 2), 1);
        x.fetch(0, 0);
        due("26 the child is fetched", x.group(0, 4, 5, 2), 1);
        due("28 no group has its age any more", x.hand(0), NOT);
    }

    private static void children() {
        CampWeek x = new CampWeek();
        x.party(4, 2, 0, 0, NONE);
        x.party(4, 0, 0, 0, NONE);
        due("27 child(-1, 5)", x.child(-1, 5), BAD);
        due("27 child(2, 5)", x.child(2, 5), BAD);
        due("27 child(0, -1)", x.child(0, -1), BAD);
        due("27 child(0, 18)", x.child(0, 18), BAD);
        due("27 child(0, 0)", x.child(0, 0), 0);
        due("27 child(0, 17)", x.child(0, 17), 1);
        due("27 as many as CHILDREN", x.child(0, 5), FULL);
        due("27 no CHILDREN", x.child(1, 5), FULL);
        due("27 BAD before FULL", x.child(1, 18), BAD);
        due("27 with its party", x.with(0), NONE);
        CampWeek y = new CampWeek();
        for (int party = 0; party < 6; party++) {
            y.party(8, party == 0 ? 7 : 8, 0, 0, NONE);
        }
        for (int i = 0; i < 40; i++) {
            due("27 child number " + i, y.child(i < 7 ? 0 : 1 + (i - 7) / 8, 3), i);
        }
        due("27 beyond 40", y.child(5, 3), FULL);
        due("27 count(4)", y.count(4), 40);
    }

    private static void handing() {
        CampWeek x = new CampWeek();
        x.party(8, 8, 0, 0, NONE);
        int[] ages = {4, 5, 6, 9, 10, 5};
        for (int age : ages) {
            x.child(0, age);
        }
        due("28 no groups", x.hand(0), NOT);
        x.group(2, 5, 9, 3);
        due("28 too young", x.hand(0), NOT);
        due("28 the youngest age", x.hand(1), 2);
        due("30 with(1)", x.with(1), 2);
        due("28 it is in it", x.hand(1), NOT);
        due("28 within", x.hand(2), 2);
        due("28 the oldest age", x.hand(3), 2);
        due("28 too old", x.hand(4), NOT);
        due("28 its MOST", x.hand(5), FULL);
        due("28 NOT before FULL", x.hand(3), NOT);
        due("30 not in it", x.with(5), NONE);
        x.fetch(1, 0);
        due("30 fetched", x.with(1), NONE);
        due("28 a place again", x.hand(5), 2);
        x.group(0, 0, 4, 1);
        due("28 another group", x.hand(0), 0);
        due("28 hand(6)", x.hand(6), BAD);
        due("28 hand(-1)", x.hand(-1), BAD);
        due("30 with(6)", x.with(6), BAD);
        due("30 with(-1)", x.with(-1), BAD);
    }

    private static void fetching() {
        CampWeek x = new CampWeek();
        x.party(3, 2, 0, 0, NONE);
        x.party(3, 2, 0, 0, NONE);
        x.child(0, 5);
        x.child(1, 5);
        x.group(0, 5, 5, 2);
        due("29 in no group", x.fetch(0, 0), NOT);
        x.hand(0);
        due("29 not its party", x.fetch(0, 1), NOT);
        due("30 it stays", x.with(0), 0);
        due("29 fetch(-1, 0)", x.fetch(-1, 0), BAD);
        due("29 fetch(2, 0)", x.fetch(2, 0), BAD);
        due("29 fetch(0, -1)", x.fetch(0, -1), BAD);
        due("29 fetch(0, 2)", x.fetch(0, 2), BAD);
        due("29 its own party", x.fetch(0, 0), 1);
        due("30 with(0)", x.with(0), NONE);
        due("29 again", x.fetch(0, 0), NOT);
        due("28 handed over again", x.hand(0), 0);
        due("28 hand(1)", x.hand(1), 0);
        due("29 party 0 is not that of child 1", x.fetch(1, 0), NOT);
        due("29 party 1 is", x.fetch(1, 1), 1);
    }

    private static void lists() {
        CampWeek x = new CampWeek();
        due("31 day -1", x.list(-1, 0, 0), BAD);
        due("31 day 1000", x.list(1000, 0, 0), BAD);
        due("31 notice -1", x.list(0, -1, 0), BAD);
        due("31 notice 100", x.list(0, 100, 0), BAD);
        due("31 hundredths -1", x.list(0, 0, -1), BAD);
        due("31 hundredths 101", x.list(0, 0, 101), BAD);
        for (int i = 0; i < 30; i++) {
            due("31 line " + i, x.list(999, 99, 100), i + 1);
        }
        due("31 beyond 30", x.list(0, 0, 0), FULL);
        due("31 BAD before FULL", x.list(0, 0, 101), BAD);
        due("32 of 30 lines", x.pays(999, 99), 100);
        due("32 of 30 lines", x.pays(998, 99), 0);
        due("31 count(6)", x.count(6), 30);
    }

    private static void paying() {
        CampWeek x = new CampWeek();
        x.list(10, 0, 20);
        x.list(10, 14, 80);
        x.list(10, 20, 50);
        x.list(20, 5, 40);
        x.list(15, 99, 100);
        due("32 before any", x.pays(9, 99), 0);
        due("32 day 0", x.pays(0, 0), 0);
        due("32 its day", x.pays(10, 0), 20);
        due("32 below the notice", x.pays(14, 13), 20);
        due("32 the notice", x.pays(14, 14), 80);
        due("32 the greatest, not the latest", x.pays(14, 999), 80);
        due("32 the later list, though told first", x.pays(15, 98), 0);
        due("32 the later list", x.pays(19, 99), 100);
        due("32 the latest list", x.pays(20, 99), 40);
        due("32 without", x.pays(999, 4), 0);
        CampWeek y = new CampWeek();
        y.list(0, 0, 100);
        due("32 one line, on day 0", y.pays(0, 0), 100);
        due("32 one line, to the last day", y.pays(999, 999), 100);
        y.list(0, 0, 30);
        due("32 the greatest, told first", y.pays(5, 0), 100);
        due("32 pays(-1, 0)", x.pays(-1, 0), BAD);
        due("32 pays(1000, 0)", x.pays(1000, 0), BAD);
        due("32 pays(0, -1)", x.pays(0, -1), BAD);
        due("32 pays(0, 1000)", x.pays(0, 1000), BAD);
    }

    private static void sheets() {
        CampWeek x = new CampWeek();
        due("33 sheet(4, 0, 1)", x.sheet(4, 0, 1), BAD);
        due("33 sheet(-1, 0, 1)", x.sheet(-1, 0, 1), BAD);
        due("33 form 3", x.sheet(0, 3, 1), BAD);
        due("33 form -1", x.sheet(0, -1, 1), BAD);
        due("33 above 60", x.sheet(0, 0, 61), BAD);
        due("33 BAD is no finding", x.count(7), 0);
        due("33 BAD before SIZE", x.sheet(4, 0, -1), BAD);
        due("33 BAD before SIZE", x.sheet(0, 3, -1), BAD);
        due("33 below 0", x.sheet(0, 0, -1), SIZE);
        due("33 finding", x.count(7), 5);
        due("33 60 items", x.sheet(3, 2, 60), 60);
        x.put(3, 2, 59, 7);
        due("33 SIZE changes nothing else", x.sheet(3, 0, -5), SIZE);
        due("33 the old row", x.get(3, 2, 59), 7);
        due("33 a new row", x.sheet(3, 2, 60), 60);
        due("33 of 0", x.get(3, 2, 59), 0);
        due("33 no items", x.sheet(2, 1, 0), 0);
        due("33 it has none", x.put(2, 1, 0, 1), INDEX);
        due("34 how many it had", x.lose(2), 0);
        due("33 another form", x.sheet(3, 0, 2), 2);
        due("33 another form", x.put(3, 2, 0, 1), CAST);
        due("33 fewer items", x.put(3, 0, 2, 1), INDEX);
    }

    private static void losing() {
        CampWeek x = new CampWeek();
        x.sheet(1, 0, 9);
        due("34 lose(4)", x.lose(4), BAD);
        due("34 lose(-1)", x.lose(-1), BAD);
        due("34 no finding", x.count(7), 0);
        due("34 lost at first", x.lose(0), NULL);
        due("34 finding", x.count(7), 1);
        due("34 how many it had", x.lose(1), 9);
        due("34 lost now", x.lose(1), NULL);
        due("34 a new one", x.sheet(1, 0, 3), 3);
        due("34 how many it had", x.lose(1), 3);
    }

    private static void puttingAndGetting() {
        int leastInt = Integer.MIN_VALUE;
        CampWeek x = new CampWeek();
        for (int form = 0; form <= 2; form++) {
            x.sheet(form, form, 3);
        }
        int[] given = {127, 128, 255, 256, -129, 32767, 32768, 65536 + 5, leastInt, Integer.MAX_VALUE};
        for (int v : given) {
            due("35 a byte", x.put(0, 0, 2, v), 1);
            due("36 byte of " + v, x.get(0, 0, 2), (byte) v);
            due("35 a short", x.put(1, 1, 2, v), 1);
            due("36 short of " + v, x.get(1, 1, 2), (short) v);
            due("35 an int", x.put(2, 2, 2, v), 1);
            due("36 int of " + v, x.get(2, 2, 2), v);
        }
        due("36 beside it", x.get(2, 2, 1), 0);
        int[][] wrong = {{-1, 0, 0, BAD}, {4, 0, 0, BAD}, {0, -1, 0, BAD}, {0, 3, 0, BAD}, {3, 0, 0, NULL},
            {3, 0, 99, NULL}, {0, 1, 0, CAST}, {0, 2, 99, CAST}, {0, 0, 3, INDEX}, {1, 1, -1, INDEX},
            {3, 3, 0, BAD}, {2, 2, leastInt, INDEX}, {2, 2, Integer.MAX_VALUE, INDEX}};
        int finding = 0;
        for (int[] w : wrong) {
            finding = w[3] == BAD ? finding : -10 - w[3];
            due("35 put " + w[0] + " " + w[1] + " " + w[2], x.put(w[0], w[1], w[2], 1), w[3]);
            due("35 its finding", x.count(7), finding);
            x.sheet(0, 0, -1);
            due("36 get " + w[0] + " " + w[1] + " " + w[2], x.get(w[0], w[1], w[2]), leastInt);
            due("36 its finding", x.count(7), w[3] == BAD ? 5 : finding);
            finding = x.count(7);
        }
    }

    private static void copying() {
        CampWeek x = new CampWeek();
        x.sheet(0, 2, 6);
        x.sheet(1, 2, 4);
        x.sheet(2, 1, 4);
        for (int i = 0; i < 6; i++) {
            x.put(0, 2, i, i + 1);
        }
        due("37 copy(0, 3, 1, 1, 3)", x.copy(0, 3, 1, 1, 3), 1);
        dueItems("37", x, 1, new int[] {0, 4, 5, 6});
        due("37 onto itself, forwards", x.copy(0, 0, 0, 2, 4), 1);
        dueItems("37", x, 0, new int[] {1, 2, 1, 2, 3, 4});
        due("37 onto itself, backwards", x.copy(0, 2, 0, 1, 4), 1);
        dueItems("37", x, 0, new int[] {1, 1, 2, 3, 4, 4});
        due("37 none, behind the last", x.copy(0, 6, 1, 4, 0), 1);
        due("37 no finding", x.count(7), 0);
        due("37 no sheet s", x.copy(4, 0, 0, 0, 0), BAD);
        due("37 no sheet s", x.copy(-1, 0, 0, 0, 0), BAD);
        due("37 no sheet t", x.copy(0, 0, 4, 0, 0), BAD);
        due("37 no sheet t, s is LOST", x.copy(3, 0, -1, 0, 0), BAD);
        due("37 s is LOST", x.copy(3, 0, 0, 0, 1), NULL);
        due("37 t is LOST, before INDEX", x.copy(0, -1, 3, 0, 1), NULL);
        due("37 its finding", x.count(7), 1);
        due("37 unlike forms, before INDEX", x.copy(0, 0, 2, 9, 1), STORE);
        due("37 its finding", x.count(7), 4);
        int max = Integer.MAX_VALUE;
        int[][] wrong = {{-1, 0, 1}, {0, -1, 1}, {0, 0, -1}, {0, 0, 5}, {2, 0, 5}, {0, 1, 4}, {7, 0, 0}, {0, 5, 0},
            {max, 0, max}, {0, max, max}, {1, 0, max}, {0, 1, max}, {Integer.MIN_VALUE, 0, max}, {6, 4, 1}};
        for (int[] w : wrong) {
            due("37 INDEX " + w[0] + " " + w[1] + " " + w[2], x.copy(0, w[0], 1, w[1], w[2]), INDEX);
        }
        due("37 its finding", x.count(7), 2);
        dueItems("37 unchanged", x, 1, new int[] {0, 4, 5, 6});
        due("37 shorts", x.put(2, 1, 0, -3), 1);
        due("37 shorts", x.copy(2, 0, 2, 3, 1), 1);
        due("37 shorts", x.get(2, 1, 3), -3);
    }

    private static void dueItems(String name, CampWeek x, int s, int[] want) {
        for (int i = 0; i < want.length; i++) {
            due(name + " item " + i, x.get(s, 2, i), want[i]);
        }
    }

    private static void counting() {
        CampWeek x = Camps.ofHuts(3, 4);
        x.party(2, 2, 0, 0, NONE);
        x.party(2, 0, 0, 0, NONE);
        x.lodge(1);
        for (int i = 0; i < 4; i++) {
            x.show(-1, i, NONE);
        }
        x.child(0, 3);
        x.child(0, 4);
        for (int i = 0; i < 5; i++) {
            x.cook(0, 0, 1);
        }
        for (int i = 0; i < 6; i++) {
            x.list(1, 1, 1);
        }
        x.lose(0);
        int[] want = {3, 2, 1, 4, 2, 5, 6, 1};
        for (int what = 0; what < want.length; what++) {
            due("38 count(" + what + ")", x.count(what), want[what]);
        }
        due("38 count(-1)", x.count(-1), BAD);
        due("38 count(8)", x.count(8), BAD);
    }

    private static void digests() {
        CampWeek x = new CampWeek();
        long h = 17;
        for (int i = 0; i < 17; i++) {
            h = 31 * h;
        }
        due("39 a new object", x.digest(), h);
        x.hut(0, 4);
        x.hut(0, 4);
        x.party(4, 1, 0, 0, NONE);
        x.party(3, 1, 0, 1, NONE);
        x.party(3, 1, 0, 1, NONE);
        x.lodge(1);
        x.lodge(0);
        x.show(-1, 0, NONE);
        x.show(3, 0, NONE);
        x.child(0, 5);
        x.group(2, 5, 5, 1);
        x.hand(0);
        x.child(1, 5);
        x.cook(0, 0, 0);
        x.list(0, 0, 0);
        x.lose(0);
        long[] parts = {2, 3, 2, 2, 2, 1, 1, 1, 0, -1, 1, 3, 0, 0, 0, 0, 0, 0, 0, 0, 6, 3, 2, -1};
        h = 17;
        for (long part : parts) {
            h = 31 * h + part;
        }
        due("39 of all", x.digest(), h);
        x.seats(0, 0);
        parts[10] = -1;
        parts[11] = -1;
        h = 17;
        for (long part : parts) {
            h = 31 * h + part;
        }
        due("39 without a way", x.digest(), h);
    }

    private static void fullCamp() {
        CampWeek x = Camps.ofHuts(30, 8);
        for (int party = 0; party < 24; party++) {
            x.party(8, 0, 0, 9, party % 10);
            due("5 lodge " + party, x.lodge(party), party);
        }
        due("2 FULL", x.hut(0, 1), FULL);
        due("9 in(29, 9)", x.in(29, 9), NONE);
        due("9 in(23, 9)", x.in(23, 9), 23);
        due("10 six huts", x.empty(9), 48);
        due("14 more(33)", x.more(33), 10);
        x.seats(192, 0);
        due("15 all in sitting 0", x.foretell(0, 0), 192);
        due("16 255 cooked, cut", x.cook(0, 0, 0), 255);
        due("17 foretold", x.line(0, 2), 192);
        due("17 cooked", x.line(0, 3), 255);
        for (int party = 0; party < 23; party++) {
            x.leave(party);
        }
        for (int party = 0; party < 23; party++) {
            x.tell(23, party, 1);
            due("5 APART from the last one", x.lodge(party), NONE);
        }

        CampWeek y = Camps.ofHuts(24, 8);
        for (int party = 0; party < 24; party++) {
            y.party(8, 0, party == 0 ? 1 : 0, 9, NONE);
        }
        for (int party = 1; party < 24; party++) {
            y.lodge(party);
        }
        due("5 the last hut", y.lodge(0), 23);
        due("5 it is free in week 0", y.in(23, 0), NONE);
        due("9 the last party", y.in(22, 0), 23);
        y.leave(0);
        for (int i = 0; i < 6; i++) {
            y.hut(1, 1);
        }
        due("10 hut 23 and six more", y.empty(1), 14);
    }

    private static void fullCampAtShows() {
        CampWeek x = Camps.ofHuts(24, 8);
        for (int show = 0; show < 12; show++) {
            x.show(show < 6 ? show : -1, show < 6 ? 39 : 38, -1);
            x.hall(show % 6, 32);
        }
        for (int party = 0; party < 24; party++) {
            x.party(8, 0, 0, 9, NONE);
            x.lodge(party);
            for (int show = 0; show < 6; show++) {
                due("20 wish", x.wish(party, show), show + 1);
            }
        }
        for (int party = 0; party < 24; party++) {
            due("23 four in each hall: " + party, x.goes(party, 9, 39), party / 4);
            due("24 and away from the others: " + party, x.turned(party, 9, 39), party / 4);
        }
        for (int show = 0; show < 6; show++) {
            due("25 crowd " + show, x.crowd(show, 0), 32);
        }
        x.hall(5, 31);
        due("23 the last one", x.goes(23, 9, 39), NONE);
        due("24 from all six", x.turned(23, 9, 39), 6);
        due("25 three in hall 5", x.crowd(5, 9), 24);
    }
}
