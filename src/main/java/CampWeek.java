import java.util.Arrays;

/** A holiday camp of huts, sittings, shows, children's groups, paying back and weather sheets. */
public final class CampWeek {
    public static final int NONE = -1, BAD = -2, NOT = -3, FULL = -4;

    private static final int WEEKS = 10;
    private static final int HOURS = 40;

    private final Lodgings lodgings;
    private final Sittings sittings;
    private final Kitchen kitchen;
    private final Shows shows;
    private final Groups groups;
    private final PaybackLists paybacks;
    private final Sheets sheets;

    public CampWeek() {
        lodgings = new Lodgings();
        sittings = new Sittings();
        kitchen = new Kitchen();
        shows = new Shows();
        groups = new Groups();
        paybacks = new PaybackLists();
        sheets = new Sheets();
    }

    // ---- huts, parties

    public int hut(int row, int beds) {
        return lodgings.huts.add(row, beds);
    }

    public int party(int size, int children, int from, int to, int table) {
        return lodgings.parties.add(size, children, from, to, table);
    }

    public int tell(int a, int b, int kind) {
        return lodgings.relate(a, b, kind);
    }

    public int lodge(int party) {
        return lodgings.takeIn(party);
    }

    public int moved() {
        return lodgings.latestMoved;
    }

    public int leave(int party) {
        return lodgings.parties.giveUpHut(party);
    }

    public int about(int party, int what) {
        return lodgings.parties.fact(party, what);
    }

    public int in(int hut, int week) {
        return lodgings.guest(hut, week);
    }

    public int empty(int week) {
        return lodgings.emptyBeds(week);
    }

    // ---- sittings, kitchen

    public int seats(int first, int second) {
        return sittings.setSeats(first, second);
    }

    public int apart(int week) {
        if (!isWeek(week)) {
            return BAD;
        }
        sittings.arrange(lodgings.parties, week);
        return sittings.difference;
    }

    public int sits(int party, int week) {
        if (!lodgings.parties.has(party) || !isWeek(week)) {
            return BAD;
        }
        sittings.arrange(lodgings.parties, week);
        return sittings.sittingOf(party);
    }

    public int more(int part) {
        return kitchen.setPart(part);
    }

    public int foretell(int week, int sitting) {
        if (!isWeek(week) || !within(sitting, 0, 1)) {
            return BAD;
        }
        sittings.arrange(lodgings.parties, week);
        return sittings.dinners(lodgings.parties, sitting);
    }

    public int cook(int week, int sitting, int come) {
        if (!within(come, 0, Kitchen.MOST_COME)) {
            return BAD;
        }
        int foretold = foretell(week, sitting);
        if (foretold == BAD) {
            return BAD;
        }
        return foretold == NONE ? NOT : kitchen.serve(week, sitting, foretold, come);
    }

    public int line(int i, int what) {
        return kitchen.entry(i, what);
    }

    // ---- shows

    public int hall(int h, int room) {
        return shows.setRoom(h, room);
    }

    public int show(int hall, int hour, int wet) {
        return shows.add(hall, hour, wet);
    }

    public int wish(int party, int show) {
        return lodgings.parties.has(party) ? shows.addWish(party, show) : BAD;
    }

    public int wet(int hour) {
        if (!isHour(hour)) {
            return BAD;
        }
        return sheets.countsAsWet(hour) ? 1 : 0;
    }

    public int where(int show) {
        return shows.has(show) ? shows.place(show, sheets.countsAsWet(shows.hours[show])) : BAD;
    }

    public int goes(int party, int week, int hour) {
        if (!lodgings.parties.has(party) || !isWeek(week) || !isHour(hour)) {
            return BAD;
        }
        shows.send(lodgings.parties, week, hour, sheets.countsAsWet(hour));
        return shows.chosen[party];
    }

    public int turned(int party, int week, int hour) {
        if (!lodgings.parties.has(party) || !isWeek(week) || !isHour(hour)) {
            return BAD;
        }
        shows.send(lodgings.parties, week, hour, sheets.countsAsWet(hour));
        return shows.turnedAway[party];
    }

    public int crowd(int show, int week) {
        if (!shows.has(show) || !isWeek(week)) {
            return BAD;
        }
        int hour = shows.hours[show];
        shows.send(lodgings.parties, week, hour, sheets.countsAsWet(hour));
        return shows.peopleIn(show, lodgings.parties);
    }

    // ---- children

    public int group(int g, int from, int to, int most) {
        return groups.define(g, from, to, most);
    }

    public int child(int party, int age) {
        if (!lodgings.parties.has(party)) {
            return BAD;
        }
        return groups.addChild(party, age, lodgings.parties.children[party]);
    }

    public int hand(int child) {
        return groups.handOver(child);
    }

    public int fetch(int child, int party) {
        return lodgings.parties.has(party) ? groups.giveBack(child, party) : BAD;
    }

    public int with(int child) {
        return groups.hasChild(child) ? groups.groupOf[child] : BAD;
    }

    // ---- paying back

    public int list(int day, int notice, int hundredths) {
        return paybacks.add(day, notice, hundredths);
    }

    public int pays(int day, int notice) {
        return paybacks.paidBack(day, notice);
    }

    // ---- sheets

    public int sheet(int s, int form, int n) {
        return sheets.renew(s, form, n);
    }

    public int lose(int s) {
        return sheets.drop(s);
    }

    public int put(int s, int form, int i, int v) {
        return sheets.store(s, form, i, v);
    }

    public int get(int s, int form, int i) {
        return sheets.read(s, form, i);
    }

    public int copy(int s, int i, int t, int j, int n) {
        return sheets.transfer(s, i, t, j, n);
    }

    public int count(int what) {
        switch (what) {
            case 0:
                return lodgings.huts.count;
            case 1:
                return lodgings.parties.count;
            case 2:
                return lodgings.parties.lodgedCount();
            case 3:
                return shows.count;
            case 4:
                return groups.childCount;
            case 5:
                return kitchen.lines;
            case 6:
                return paybacks.count;
            case 7:
                return sheets.latestFinding;
            default:
                return BAD;
        }
    }

    public long digest() {
        long h = 17;
        for (int what = 0; what <= 6; what++) {
            h = 31 * h + count(what);
        }
        for (int party = 0; party < lodgings.parties.count; party++) {
            h = 31 * h + lodgings.parties.hutOf[party];
        }
        for (int week = 0; week < WEEKS; week++) {
            h = 31 * h + apart(week);
        }
        for (int show = 0; show < shows.count; show++) {
            h = 31 * h + where(show);
        }
        for (int child = 0; child < groups.childCount; child++) {
            h = 31 * h + groups.groupOf[child];
        }
        return h;
    }

    private static boolean within(int n, int least, int most) {
        return n >= least && n <= most;
    }

    private static boolean isWeek(int week) {
        return within(week, 0, WEEKS - 1);
    }

    private static boolean isHour(int hour) {
        return within(hour, 0, HOURS - 1);
    }

    /** The huts, by their numbers. */
    private static final class Huts {
        static final int MOST = 30;
        static final int LAST_ROW = 5;
        static final int MOST_BEDS = 8;

        final int[] rows = new int[MOST];
        final int[] beds = new int[MOST];
        int count = 0;

        boolean has(int hut) {
            return within(hut, 0, count - 1);
        }

        int add(int row, int bedsInIt) {
            if (!within(row, 0, LAST_ROW) || !within(bedsInIt, 1, MOST_BEDS)) {
                return BAD;
            }
            if (count >= MOST) {
                return FULL;
            }
            rows[count] = row;
            beds[count] = bedsInIt;
            count++;
            return count - 1;
        }
    }

    /** The parties, by their numbers, with their huts and what pairs of them are told. */
    private static final class Parties {
        static final int MOST = 24;
        static final int MOST_SIZE = 8;
        static final int TABLES = 10;
        static final int NEXT = 0;
        static final int APART = 1;
        static final int NEITHER = 2;

        final int[] sizes = new int[MOST];
        final int[] children = new int[MOST];
        final int[] firstWeeks = new int[MOST];
        final int[] lastWeeks = new int[MOST];
        final int[] tables = new int[MOST];
        final int[] hutOf = new int[MOST];
        final int[] told = new int[MOST * MOST];
        int count = 0;

        Parties() {
            Arrays.fill(hutOf, NONE);
            Arrays.fill(told, NEITHER);
        }

        boolean has(int party) {
            return within(party, 0, count - 1);
        }

        int add(int size, int childrenInIt, int from, int to, int table) {
            if (!within(size, 1, MOST_SIZE) || !within(childrenInIt, 0, size)
                    || !isWeek(from) || !isWeek(to) || from > to || !within(table, NONE, TABLES - 1)) {
                return BAD;
            }
            if (count >= MOST) {
                return FULL;
            }
            sizes[count] = size;
            children[count] = childrenInIt;
            firstWeeks[count] = from;
            lastWeeks[count] = to;
            tables[count] = table;
            count++;
            return count - 1;
        }

        boolean isLodged(int party) {
            return hutOf[party] != NONE;
        }

        boolean isThere(int party, int week) {
            return isLodged(party) && within(week, firstWeeks[party], lastWeeks[party]);
        }

        boolean shareWeek(int a, int b) {
            return firstWeeks[a] <= lastWeeks[b] && firstWeeks[b] <= lastWeeks[a];
        }

        boolean areTold(int a, int b, int kind) {
            return told[a * MOST + b] == kind;
        }

        int setTold(int a, int b, int kind) {
            int before = told[a * MOST + b];
            told[a * MOST + b] = kind;
            told[b * MOST + a] = kind;
            return before;
        }

        int giveUpHut(int party) {
            if (!has(party)) {
                return BAD;
            }
            if (!isLodged(party)) {
                return NOT;
            }
            int hut = hutOf[party];
            hutOf[party] = NONE;
            return hut;
        }

        int fact(int party, int what) {
            if (!has(party)) {
                return BAD;
            }
            switch (what) {
                case 0:
                    return sizes[party];
                case 1:
                    return children[party];
                case 2:
                    return firstWeeks[party];
                case 3:
                    return lastWeeks[party];
                case 4:
                    return tables[party];
                case 5:
                    return hutOf[party];
                default:
                    return BAD;
            }
        }

        int lodgedCount() {
            int lodged = 0;
            for (int party = 0; party < count; party++) {
                if (isLodged(party)) {
                    lodged++;
                }
            }
            return lodged;
        }
    }

    /** Who is lodged where, and who made room. */
    private static final class Lodgings {
        final Huts huts = new Huts();
        final Parties parties = new Parties();
        int latestMoved = NONE;

        int relate(int a, int b, int kind) {
            if (!parties.has(a) || !parties.has(b) || a == b || !within(kind, Parties.NEXT, Parties.NEITHER)) {
                return BAD;
            }
            if (kind == Parties.APART && liveInOneRow(a, b)) {
                return NOT;
            }
            return parties.setTold(a, b, kind);
        }

        private boolean liveInOneRow(int a, int b) {
            return parties.isLodged(a) && isInRow(b, huts.rows[parties.hutOf[a]]) && parties.shareWeek(a, b);
        }

        private boolean isInRow(int party, int row) {
            int hut = parties.hutOf[party];
            return hut != NONE && huts.rows[hut] == row;
        }

        int takeIn(int party) {
            if (!parties.has(party)) {
                return BAD;
            }
            if (parties.isLodged(party)) {
                return NOT;
            }
            int hut = dearestHut(party);
            if (hut != NONE) {
                parties.hutOf[party] = hut;
                latestMoved = NONE;
                return hut;
            }
            for (int other = 0; other < parties.count; other++) {
                if (parties.isLodged(other) && makesRoom(other, party)) {
                    latestMoved = other;
                    return parties.hutOf[party];
                }
            }
            return NONE;
        }

        /** The dearest hut that the party may have as things stand; NONE: there is none. */
        private int dearestHut(int party) {
            int dearest = NONE;
            int leastCost = 0;
            for (int hut = 0; hut < huts.count; hut++) {
                if (mayHave(party, hut)) {
                    int cost = cost(party, hut);
                    if (dearest == NONE || cost < leastCost) {
                        dearest = hut;
                        leastCost = cost;
                    }
                }
            }
            return dearest;
        }

        private boolean mayHave(int party, int hut) {
            if (huts.beds[hut] < parties.sizes[party]) {
                return false;
            }
            for (int other = 0; other < parties.count; other++) {
                if (other != party && isInRow(other, huts.rows[hut]) && parties.shareWeek(party, other)) {
                    if (parties.hutOf[other] == hut || parties.areTold(party, other, Parties.APART)) {
                        return false;
                    }
                }
            }
            return true;
        }

        /** Lower is dearer: a row with one told NEXT outweighs any number of beds left over. */
        private int cost(int party, int hut) {
            int bedsLeft = huts.beds[hut] - parties.sizes[party];
            return isNextTo(party, huts.rows[hut]) ? bedsLeft : bedsLeft + Huts.MOST_BEDS;
        }

        private boolean isNextTo(int party, int row) {
            for (int other = 0; other < parties.count; other++) {
                if (parties.areTold(party, other, Parties.NEXT) && isInRow(other, row)
                        && parties.shareWeek(party, other)) {
                    return true;
                }
            }
            return false;
        }

        /**
         * Gives the other one's hut to the party, if that one can be lodged elsewhere then; else all stays.
         * It never finds its old hut again: it can only have stood in the way of a party whose weeks it shares.
         */
        private boolean makesRoom(int other, int party) {
            int hut = parties.hutOf[other];
            parties.hutOf[other] = NONE;
            if (mayHave(party, hut)) {
                parties.hutOf[party] = hut;
                int elsewhere = dearestHut(other);
                if (elsewhere != NONE) {
                    parties.hutOf[other] = elsewhere;
                    return true;
                }
                parties.hutOf[party] = NONE;
            }
            parties.hutOf[other] = hut;
            return false;
        }

        int guest(int hut, int week) {
            return huts.has(hut) && isWeek(week) ? whoIsIn(hut, week) : BAD;
        }

        private int whoIsIn(int hut, int week) {
            for (int party = 0; party < parties.count; party++) {
                if (parties.hutOf[party] == hut && parties.isThere(party, week)) {
                    return party;
                }
            }
            return NONE;
        }

        int emptyBeds(int week) {
            if (!isWeek(week)) {
                return BAD;
            }
            int beds = 0;
            for (int hut = 0; hut < huts.count; hut++) {
                if (whoIsIn(hut, week) == NONE) {
                    beds += huts.beds[hut];
                }
            }
            return beds;
        }
    }

    /**
     * The sittings of one week at a time. Who must sit together is one BENCH; benches are numbered
     * by their first parties, so the first bench that differs holds the first party that differs.
     */
    private static final class Sittings {
        static final int MOST_SEATS = 200;
        static final int SEATS_AT_FIRST = 60;
        static final int MOST_PEOPLE = Parties.MOST * Parties.MOST_SIZE;

        int firstSeats = SEATS_AT_FIRST;
        int secondSeats = SEATS_AT_FIRST;
        int difference = NONE;

        private int benches = 0;
        private int people = 0;
        private final int[] benchOf = new int[Parties.MOST];
        private final int[] benchOfTable = new int[Parties.TABLES];
        private final int[] benchSize = new int[Parties.MOST];
        private final int[] benchSitting = new int[Parties.MOST];
        /** Of each number of people: the last bench from which on benches can make it up; NONE: none can. */
        private final int[] madeFrom = new int[MOST_PEOPLE + 1];

        int setSeats(int first, int second) {
            if (!within(first, 0, MOST_SEATS) || !within(second, 0, MOST_SEATS)) {
                return BAD;
            }
            firstSeats = first;
            secondSeats = second;
            return 1;
        }

        /** Finds the sittings of the week; difference is NONE if there is no way. */
        void arrange(Parties parties, int week) {
            fillBenches(parties, week);
            findNumbers();
            findDifference();
            partBenches();
        }

        private void fillBenches(Parties parties, int week) {
            benches = 0;
            people = 0;
            Arrays.fill(benchOf, NONE);
            Arrays.fill(benchOfTable, NONE);
            for (int party = 0; party < parties.count; party++) {
                if (parties.isThere(party, week)) {
                    int bench = benchFor(parties.tables[party]);
                    benchOf[party] = bench;
                    benchSize[bench] += parties.sizes[party];
                    people += parties.sizes[party];
                }
            }
        }

        private int benchFor(int table) {
            if (table != NONE && benchOfTable[table] != NONE) {
                return benchOfTable[table];
            }
            int bench = benches;
            benches++;
            benchSize[bench] = 0;
            if (table != NONE) {
                benchOfTable[table] = bench;
            }
            return bench;
        }

        /** Goes through benches from the last one back, so that a number keeps the last bench that made it up. */
        private void findNumbers() {
            Arrays.fill(madeFrom, NONE);
            madeFrom[0] = benches;
            int most = 0;
            for (int bench = benches - 1; bench >= 0; bench--) {
                int size = benchSize[bench];
                most += size;
                for (int number = most; number >= size; number--) {
                    if (madeFrom[number] == NONE && madeFrom[number - size] != NONE) {
                        madeFrom[number] = bench;
                    }
                }
            }
        }

        private void findDifference() {
            difference = NONE;
            for (int first = 0; first <= people; first++) {
                int apartBy = Math.abs(people - 2 * first);
                if (isWay(first) && (difference == NONE || apartBy < difference)) {
                    difference = apartBy;
                }
            }
        }

        private boolean isWay(int first) {
            return madeFrom[first] != NONE && first <= firstSeats && people - first <= secondSeats;
        }

        private void partBenches() {
            int first = 0;
            for (int bench = 0; bench < benches; bench++) {
                int withIt = first + benchSize[bench];
                if (leadsToBest(withIt, bench + 1)) {
                    benchSitting[bench] = 0;
                    first = withIt;
                } else {
                    benchSitting[bench] = 1;
                }
            }
        }

        /** Whether so many in sitting 0 and some benches from that one on make up a best way. */
        private boolean leadsToBest(int first, int bench) {
            return difference != NONE
                    && (canBecome(first, (people - difference) / 2, bench)
                    || canBecome(first, (people + difference) / 2, bench));
        }

        private boolean canBecome(int first, int wanted, int bench) {
            return first <= wanted && isWay(wanted) && madeFrom[wanted - first] >= bench;
        }

        int sittingOf(int party) {
            return difference == NONE || benchOf[party] == NONE ? NONE : benchSitting[benchOf[party]];
        }

        int dinners(Parties parties, int sitting) {
            if (difference == NONE) {
                return NONE;
            }
            int grown = 0;
            int children = 0;
            for (int party = 0; party < parties.count; party++) {
                if (sittingOf(party) == sitting) {
                    grown += parties.sizes[party] - parties.children[party];
                    children += parties.children[party];
                }
            }
            return grown + children / 2;
        }
    }

    /** How much is cooked, and the book of it. */
    private static final class Kitchen {
        static final int MOST_LINES = 40;
        static final int ITEMS = 5;
        static final int MOST_PART = 50;
        static final int MOST_COME = 500;
        static final int SHORT = -1000;

        int part = 10;
        int lines = 0;
        private final int[] book = new int[MOST_LINES * ITEMS];

        int setPart(int next) {
            if (!within(next, 0, MOST_PART)) {
                return BAD;
            }
            int before = part;
            part = next;
            return before;
        }

        int serve(int week, int sitting, int foretold, int come) {
            if (lines >= MOST_LINES) {
                return FULL;
            }
            int cooked = foretold * (100 + part) / 100;
            int at = lines * ITEMS;
            book[at] = week;
            book[at + 1] = sitting;
            book[at + 2] = foretold;
            book[at + 3] = cooked;
            book[at + 4] = come;
            lines++;
            return cooked >= come ? cooked - come : SHORT - (come - cooked);
        }

        int entry(int i, int what) {
            if (!within(i, 0, lines - 1) || !within(what, 0, ITEMS - 1)) {
                return BAD;
            }
            return book[i * ITEMS + what];
        }
    }

    /** Halls, shows, wishes, and the crowds of one hour of one week at a time. */
    private static final class Shows {
        static final int MOST = 12;
        static final int HALLS = 6;
        static final int OUTDOORS = 6;
        static final int MOST_ROOM = 500;
        static final int ROOM_OUTDOORS = 1000;
        static final int MOST_WISHES = 6;

        final int[] hours = new int[MOST];
        final int[] chosen = new int[Parties.MOST];
        final int[] turnedAway = new int[Parties.MOST];
        int count = 0;

        private final int[] halls = new int[MOST];
        private final int[] wetHalls = new int[MOST];
        private final int[] rooms = new int[HALLS + 1];
        private final int[] roomLeft = new int[HALLS + 1];
        private final int[] wishes = new int[Parties.MOST * MOST_WISHES];
        private final int[] wishCounts = new int[Parties.MOST];

        Shows() {
            rooms[OUTDOORS] = ROOM_OUTDOORS;
        }

        boolean has(int show) {
            return within(show, 0, count - 1);
        }

        int setRoom(int hall, int room) {
            if (!within(hall, 0, HALLS - 1) || !within(room, 0, MOST_ROOM)) {
                return BAD;
            }
            int before = rooms[hall];
            rooms[hall] = room;
            return before;
        }

        int add(int hall, int hour, int wetHall) {
            if (!within(hall, NONE, HALLS - 1) || !isHour(hour) || !within(wetHall, NONE, HALLS - 1)
                    || hall != NONE && wetHall != NONE) {
                return BAD;
            }
            if (count >= MOST) {
                return FULL;
            }
            halls[count] = hall;
            hours[count] = hour;
            wetHalls[count] = wetHall;
            count++;
            return count - 1;
        }

        int addWish(int party, int show) {
            if (!has(show) || isWished(party, show)) {
                return BAD;
            }
            if (wishCounts[party] >= MOST_WISHES) {
                return FULL;
            }
            wishes[party * MOST_WISHES + wishCounts[party]] = show;
            wishCounts[party]++;
            return wishCounts[party];
        }

        private boolean isWished(int party, int show) {
            for (int w = 0; w < wishCounts[party]; w++) {
                if (wishes[party * MOST_WISHES + w] == show) {
                    return true;
                }
            }
            return false;
        }

        /** A hall, or OUTDOORS; NONE: it falls out. */
        int place(int show, boolean isWet) {
            if (halls[show] != NONE) {
                return halls[show];
            }
            return isWet ? wetHalls[show] : OUTDOORS;
        }

        /** Fills chosen and turnedAway for the hour of the week. */
        void send(Parties parties, int week, int hour, boolean isWet) {
            System.arraycopy(rooms, 0, roomLeft, 0, HALLS + 1);
            for (int party = 0; party < parties.count; party++) {
                chosen[party] = NONE;
                turnedAway[party] = 0;
                if (parties.isThere(party, week)) {
                    sendParty(party, parties.sizes[party], hour, isWet);
                }
            }
        }

        private void sendParty(int party, int size, int hour, boolean isWet) {
            for (int w = 0; w < wishCounts[party]; w++) {
                int show = wishes[party * MOST_WISHES + w];
                int place = hours[show] == hour ? place(show, isWet) : NONE;
                if (place != NONE && roomLeft[place] >= size) {
                    roomLeft[place] -= size;
                    chosen[party] = show;
                    return;
                }
                if (place != NONE) {
                    turnedAway[party]++;
                }
            }
        }

        int peopleIn(int show, Parties parties) {
            int people = 0;
            for (int party = 0; party < parties.count; party++) {
                if (chosen[party] == show) {
                    people += parties.sizes[party];
                }
            }
            return people;
        }
    }

    /** The children and their groups. */
    private static final class Groups {
        static final int GROUPS = 4;
        static final int MOST_CHILDREN = 40;
        static final int MOST_AGE = 17;
        static final int MOST_OF_MOST = 20;

        final int[] groupOf = new int[MOST_CHILDREN];
        int childCount = 0;

        private final int[] parties = new int[MOST_CHILDREN];
        private final int[] ages = new int[MOST_CHILDREN];
        private final int[] youngest = new int[GROUPS];
        private final int[] oldest = new int[GROUPS];
        private final int[] mosts = new int[GROUPS];

        /** A group without ages is one whose youngest is above its oldest. */
        Groups() {
            Arrays.fill(oldest, NONE);
        }

        int define(int g, int from, int to, int most) {
            if (!within(g, 0, GROUPS - 1) || !within(from, 0, MOST_AGE) || !within(to, from, MOST_AGE)
                    || !within(most, 1, MOST_OF_MOST) || isOfAnother(g, from, to)) {
                return BAD;
            }
            if (childrenIn(g) > 0) {
                return NOT;
            }
            youngest[g] = from;
            oldest[g] = to;
            mosts[g] = most;
            return 1;
        }

        private boolean isOfAnother(int g, int from, int to) {
            for (int other = 0; other < GROUPS; other++) {
                if (other != g && from <= oldest[other] && youngest[other] <= to) {
                    return true;
                }
            }
            return false;
        }

        private int childrenIn(int g) {
            int children = 0;
            for (int child = 0; child < childCount; child++) {
                if (groupOf[child] == g) {
                    children++;
                }
            }
            return children;
        }

        boolean hasChild(int child) {
            return within(child, 0, childCount - 1);
        }

        int addChild(int party, int age, int mostOfParty) {
            if (!within(age, 0, MOST_AGE)) {
                return BAD;
            }
            if (childCount >= MOST_CHILDREN || childrenOf(party) >= mostOfParty) {
                return FULL;
            }
            parties[childCount] = party;
            ages[childCount] = age;
            groupOf[childCount] = NONE;
            childCount++;
            return childCount - 1;
        }

        private int childrenOf(int party) {
            int children = 0;
            for (int child = 0; child < childCount; child++) {
                if (parties[child] == party) {
                    children++;
                }
            }
            return children;
        }

        int handOver(int child) {
            if (!hasChild(child)) {
                return BAD;
            }
            int g = groupFor(ages[child]);
            if (g == NONE || groupOf[child] == g) {
                return NOT;
            }
            if (childrenIn(g) >= mosts[g]) {
                return FULL;
            }
            groupOf[child] = g;
            return g;
        }

        private int groupFor(int age) {
            for (int g = 0; g < GROUPS; g++) {
                if (within(age, youngest[g], oldest[g])) {
                    return g;
                }
            }
            return NONE;
        }

        int giveBack(int child, int party) {
            if (!hasChild(child)) {
                return BAD;
            }
            if (groupOf[child] == NONE || parties[child] != party) {
                return NOT;
            }
            groupOf[child] = NONE;
            return 1;
        }
    }

    /** What is paid back to those who leave early. */
    private static final class PaybackLists {
        static final int MOST = 30;
        static final int LAST_DAY = 999;
        static final int MOST_NOTICE = 99;
        static final int MOST_NOTICE_GIVEN = 999;
        static final int MOST_HUNDREDTHS = 100;

        int count = 0;
        private final int[] days = new int[MOST];
        private final int[] notices = new int[MOST];
        private final int[] hundredths = new int[MOST];

        int add(int day, int notice, int part) {
            if (!within(day, 0, LAST_DAY) || !within(notice, 0, MOST_NOTICE) || !within(part, 0, MOST_HUNDREDTHS)) {
                return BAD;
            }
            if (count >= MOST) {
                return FULL;
            }
            days[count] = day;
            notices[count] = notice;
            hundredths[count] = part;
            count++;
            return count;
        }

        int paidBack(int day, int notice) {
            if (!within(day, 0, LAST_DAY) || !within(notice, 0, MOST_NOTICE_GIVEN)) {
                return BAD;
            }
            int listDay = latestDay(day);
            int greatest = 0;
            for (int i = 0; i < count; i++) {
                if (days[i] == listDay && notices[i] <= notice) {
                    greatest = Math.max(greatest, hundredths[i]);
                }
            }
            return greatest;
        }

        private int latestDay(int day) {
            int latest = NONE;
            for (int i = 0; i < count; i++) {
                if (days[i] <= day) {
                    latest = Math.max(latest, days[i]);
                }
            }
            return latest;
        }
    }

    /** The sheets; sheet 0 tells the weather of the hours. Items are kept cut to their form. */
    private static final class Sheets {
        static final int SHEETS = 4;
        static final int MOST_ITEMS = 60;
        static final int WEATHER = 0;
        static final int HOURS_OF_DAY = 8;
        static final int LOST = -1;
        static final int BYTES = 0;
        static final int SHORTS = 1;
        static final int INTS = 2;
        static final int OK = 0;
        static final int NULL = 1;
        static final int INDEX = 2;
        static final int CAST = 3;
        static final int STORE = 4;
        static final int SIZE = 5;
        static final int FINDINGS = -10;
        static final int LEAST_INT = -2147483648;

        int latestFinding = 0;
        private final int[] forms = new int[SHEETS];
        private final int[] lengths = new int[SHEETS];
        private final int[] items = new int[SHEETS * MOST_ITEMS];

        Sheets() {
            Arrays.fill(forms, LOST);
        }

        private boolean has(int s) {
            return within(s, 0, SHEETS - 1);
        }

        private int find(int number) {
            latestFinding = number;
            return FINDINGS - number;
        }

        int renew(int s, int form, int n) {
            if (!has(s) || !within(form, BYTES, INTS) || n > MOST_ITEMS) {
                return BAD;
            }
            if (n < 0) {
                return find(SIZE);
            }
            forms[s] = form;
            lengths[s] = n;
            Arrays.fill(items, s * MOST_ITEMS, s * MOST_ITEMS + n, 0);
            return n;
        }

        int drop(int s) {
            if (!has(s)) {
                return BAD;
            }
            if (forms[s] == LOST) {
                return find(NULL);
            }
            forms[s] = LOST;
            return lengths[s];
        }

        int store(int s, int form, int i, int v) {
            int refusal = refusal(s, form, i);
            if (refusal != OK) {
                return refusal;
            }
            items[s * MOST_ITEMS + i] = cut(form, v);
            return 1;
        }

        int read(int s, int form, int i) {
            return refusal(s, form, i) == OK ? items[s * MOST_ITEMS + i] : LEAST_INT;
        }

        private int refusal(int s, int form, int i) {
            if (!has(s) || !within(form, BYTES, INTS)) {
                return BAD;
            }
            if (forms[s] == LOST) {
                return find(NULL);
            }
            if (forms[s] != form) {
                return find(CAST);
            }
            return within(i, 0, lengths[s] - 1) ? OK : find(INDEX);
        }

        private static int cut(int form, int v) {
            if (form == BYTES) {
                return (byte) v;
            }
            return form == SHORTS ? (short) v : v;
        }

        int transfer(int s, int i, int t, int j, int n) {
            if (!has(s) || !has(t)) {
                return BAD;
            }
            if (forms[s] == LOST || forms[t] == LOST) {
                return find(NULL);
            }
            if (forms[s] != forms[t]) {
                return find(STORE);
            }
            if (!hasItems(s, i, n) || !hasItems(t, j, n)) {
                return find(INDEX);
            }
            System.arraycopy(items, s * MOST_ITEMS + i, items, t * MOST_ITEMS + j, n);
            return 1;
        }

        /** Asks by a difference, as the sum of i and n may wrap. */
        private boolean hasItems(int s, int i, int n) {
            return i >= 0 && n >= 0 && i <= lengths[s] && n <= lengths[s] - i;
        }

        /** Rain holds from its hour to the end of its day. */
        boolean countsAsWet(int hour) {
            for (int h = hour - hour % HOURS_OF_DAY; h <= hour; h++) {
                if (isWet(h)) {
                    return true;
                }
            }
            return false;
        }

        private boolean isWet(int hour) {
            return forms[WEATHER] != LOST && hour < lengths[WEATHER] && items[WEATHER * MOST_ITEMS + hour] > 0;
        }
    }
}
