import java.util.Random;

/** Random runs of 512 calls, from fixed seeds, on the class and on the model: each answer must be the same. */
public final class ModelTest {
    private static final int RUNS = 1000;
    private static final int CALLS = 512;
    private static final int KINDS = 37;
    /** The first kind of each family of calls, and behind the last. */
    private static final int[] FAMILIES = {0, 9, 16, 24, 31, KINDS};
    private static final int HUT = 0;
    private static final int PARTY = 1;
    private static final int LODGE = 3;
    private static final int SHOW = 17;
    private static final int SHEET = 31;
    private static final int LOSE = 32;
    private static final int[] WILD = {Integer.MIN_VALUE, Integer.MIN_VALUE + 1, -1001, -2, 41, 61, 1000, 1001,
        65536, Integer.MAX_VALUE - 1, Integer.MAX_VALUE};

    private final Check check;
    private final Random random;
    private final int run;
    private final CampWeek camp = new CampWeek();
    private final Model model = new Model();
    private final int[] weights = new int[KINDS];
    private final int wildness;
    private final int weeks;
    private final int mostSize;
    private final int tables;
    private int allWeights = 0;

    private ModelTest(Check check, int run) {
        this.check = check;
        this.run = run;
        random = new Random(run);
        wildness = new int[] {0, 2, 20}[run % 3];
        weeks = 1 + random.nextInt(random.nextBoolean() ? 2 : 10);
        mostSize = 1 + random.nextInt(8);
        tables = random.nextInt(11);
        weigh();
    }

    /** Most calls of a run are of one family, so that its state grows rich; huts stay few and sheets last. */
    private void weigh() {
        int family = random.nextInt(FAMILIES.length - 1);
        for (int kind = 0; kind < KINDS; kind++) {
            boolean inFamily = kind >= FAMILIES[family] && kind < FAMILIES[family + 1];
            weights[kind] = inFamily ? 10 + random.nextInt(30) : 1 + random.nextInt(5);
            weights[kind] = kind == HUT || kind == SHEET || kind == LOSE ? 1 : weights[kind];
            allWeights += weights[kind];
        }
    }

    public static void main(String[] args) {
        Check check = new Check("ModelTest");
        for (int run = 0; run < RUNS; run++) {
            new ModelTest(check, run).go();
        }
        check.end();
    }

    private void go() {
        int begin = callOften(HUT, 2 + random.nextInt(12)) + callOften(PARTY, 2 + random.nextInt(23))
                + callOften(LODGE, random.nextInt(40)) + callOften(SHOW, random.nextInt(9))
                + callOften(SHEET, random.nextInt(9));
        for (int i = begin; i < CALLS; i++) {
            int at = random.nextInt(allWeights);
            int kind = 0;
            while (at >= weights[kind]) {
                at -= weights[kind];
                kind++;
            }
            call(kind);
        }
    }

    private int callOften(int kind, int times) {
        for (int i = 0; i < times; i++) {
            call(kind);
        }
        return times;
    }

    private void due(String call, long got, long want) {
        check.due("run " + run + ": " + call, got, want);
    }

    /** A number from least to most, now and then just outside or far away. */
    private int pick(int least, int most) {
        if (random.nextInt(100) < wildness) {
            int how = random.nextInt(3);
            return how == 0 ? least - 1 : how == 1 ? most + 1 : WILD[random.nextInt(WILD.length)];
        }
        return least + random.nextInt(most - least + 1);
    }

    private int known(int what, int most) {
        return pick(0, Math.max(0, Math.min(most, model.count(what) - 1)));
    }

    private int aParty() {
        return known(1, 23);
    }

    private int aShow() {
        return known(3, 11);
    }

    private int aChild() {
        return known(4, 39);
    }

    /** Few hours, so that shows meet. */
    private int anHour() {
        return random.nextInt(6) == 0 ? pick(0, 39) : pick(6, 8);
    }

    private int aWeek() {
        return pick(0, weeks - 1);
    }

    private void call(int kind) {
        if (kind < 9) {
            callHuts(kind);
        } else if (kind < 16) {
            callSittings(kind);
        } else if (kind < 24) {
            callShows(kind);
        } else if (kind < 31) {
            callChildrenAndLists(kind);
        } else {
            callSheets(kind);
        }
    }

    private void callHuts(int kind) {
        int a = aParty();
        int b = aParty();
        int week = aWeek();
        switch (kind) {
            case 0 -> {
                int row = pick(0, random.nextInt(6));
                int beds = pick(1, mostSize);
                due("hut " + row + " " + beds, camp.hut(row, beds), model.hut(row, beds));
            }
            case 1 -> {
                int size = pick(1, mostSize);
                int kids = pick(0, Math.max(0, Math.min(size, 8)));
                int to = pick(Math.max(0, week % 10), 9);
                to = random.nextBoolean() ? week : to;
                int table = tables == 0 ? pick(-1, -1) : pick(-1, tables - 1);
                due("party " + size + " " + kids + " " + week + " " + to + " " + table,
                        camp.party(size, kids, week, to, table), model.party(size, kids, week, to, table));
            }
            case 2 -> {
                int told = pick(0, 2);
                due("tell " + a + " " + b + " " + told, camp.tell(a, b, told), model.tell(a, b, told));
            }
            case 3, 4 -> due("lodge " + a, camp.lodge(a), model.lodge(a));
            case 5 -> due("leave " + a, camp.leave(a), model.leave(a));
            case 6 -> {
                int what = pick(0, 5);
                due("about " + a + " " + what, camp.about(a, what), model.about(a, what));
            }
            case 7 -> {
                int hut = known(0, 29);
                due("in " + hut + " " + week, camp.in(hut, week), model.in(hut, week));
            }
            default -> due("empty " + week, camp.empty(week), model.empty(week));
        }
        due("moved", camp.moved(), model.moved());
    }

    private void callSittings(int kind) {
        int a = aParty();
        int week = aWeek();
        int sitting = pick(0, 1);
        switch (kind) {
            case 9 -> {
                int most = random.nextBoolean() ? 200 : 40;
                int first = pick(0, most);
                int second = pick(0, most);
                due("seats " + first + " " + second, camp.seats(first, second), model.seats(first, second));
            }
            case 10 -> due("apart " + week, camp.apart(week), model.apart(week));
            case 11 -> due("sits " + a + " " + week, camp.sits(a, week), model.sits(a, week));
            case 12 -> {
                int part = pick(0, 50);
                due("more " + part, camp.more(part), model.more(part));
            }
            case 13 -> due("foretell " + week + " " + sitting,
                    camp.foretell(week, sitting), model.foretell(week, sitting));
            case 14 -> {
                int come = random.nextBoolean() ? pick(0, 500) : pick(0, 20);
                due("cook " + week + " " + sitting + " " + come,
                        camp.cook(week, sitting, come), model.cook(week, sitting, come));
            }
            default -> {
                int i = known(5, 39);
                int what = pick(0, 4);
                due("line " + i + " " + what, camp.line(i, what), model.line(i, what));
            }
        }
    }

    private void callShows(int kind) {
        int a = aParty();
        int week = aWeek();
        int hour = anHour();
        int show = aShow();
        switch (kind) {
            case 16 -> {
                int hall = pick(0, 5);
                int room = random.nextInt(3) == 0 ? pick(0, 500) : pick(0, 20);
                due("hall " + hall + " " + room, camp.hall(hall, room), model.hall(hall, room));
            }
            case 17 -> {
                int hall = random.nextBoolean() ? pick(-1, -1) : pick(0, 2);
                int wetHall = hall >= 0 && random.nextInt(9) > 0 ? -1 : pick(-1, 2);
                due("show " + hall + " " + hour + " " + wetHall,
                        camp.show(hall, hour, wetHall), model.show(hall, hour, wetHall));
            }
            case 18 -> due("wish " + a + " " + show, camp.wish(a, show), model.wish(a, show));
            case 19 -> due("wet " + hour, camp.wet(hour), model.wet(hour));
            case 20 -> due("where " + show, camp.where(show), model.where(show));
            case 21 -> due("goes " + a + " " + week + " " + hour,
                    camp.goes(a, week, hour), model.goes(a, week, hour));
            case 22 -> due("turned " + a + " " + week + " " + hour,
                    camp.turned(a, week, hour), model.turned(a, week, hour));
            default -> due("crowd " + show + " " + week, camp.crowd(show, week), model.crowd(show, week));
        }
    }

    private void callChildrenAndLists(int kind) {
        int a = aParty();
        int child = aChild();
        switch (kind) {
            case 24 -> {
                int g = pick(0, 3);
                int from = pick(0, 17);
                int to = random.nextInt(5) == 0 ? pick(0, 17) : from + random.nextInt(5);
                int most = random.nextBoolean() ? pick(1, 20) : pick(1, 2);
                due("group " + g + " " + from + " " + to + " " + most,
                        camp.group(g, from, to, most), model.group(g, from, to, most));
            }
            case 25 -> {
                int age = pick(0, 17);
                due("child " + a + " " + age, camp.child(a, age), model.child(a, age));
            }
            case 26 -> due("hand " + child, camp.hand(child), model.hand(child));
            case 27 -> {
                int right = a;
                for (int party = 0; party < model.count(1) && random.nextBoolean(); party++) {
                    right = party;
                }
                due("fetch " + child + " " + right, camp.fetch(child, right), model.fetch(child, right));
            }
            case 28 -> due("with " + child, camp.with(child), model.with(child));
            case 29 -> {
                int day = random.nextBoolean() ? pick(0, 999) : 100 * random.nextInt(4);
                int notice = pick(0, 99);
                int hundredths = pick(0, 100);
                due("list " + day + " " + notice + " " + hundredths,
                        camp.list(day, notice, hundredths), model.list(day, notice, hundredths));
            }
            default -> {
                int day = random.nextBoolean() ? pick(0, 999) : 100 * random.nextInt(4);
                int notice = random.nextInt(4) == 0 ? pick(0, 999) : pick(0, 99);
                due("pays " + day + " " + notice, camp.pays(day, notice), model.pays(day, notice));
            }
        }
    }

    private void callSheets(int kind) {
        int s = pick(0, 3);
        int t = pick(0, 3);
        int form = random.nextInt(9) == 0 ? pick(0, 2) : run % 3;
        int i = random.nextInt(5) == 0 ? pick(0, 60) : pick(0, 9);
        switch (kind) {
            case 31 -> {
                int n = pick(0, 60);
                due("sheet " + s + " " + form + " " + n, camp.sheet(s, form, n), model.sheet(s, form, n));
            }
            case 32 -> due("lose " + s, camp.lose(s), model.lose(s));
            case 33 -> {
                int v = random.nextInt(3) == 0 ? random.nextInt() : random.nextInt(3) - 1;
                due("put " + s + " " + form + " " + i + " " + v,
                        camp.put(s, form, i, v), model.put(s, form, i, v));
            }
            case 34 -> due("get " + s + " " + form + " " + i, camp.get(s, form, i), model.get(s, form, i));
            case 35 -> {
                int j = pick(0, 20);
                int n = pick(0, 20);
                due("copy " + s + " " + i + " " + t + " " + j + " " + n,
                        camp.copy(s, i, t, j, n), model.copy(s, i, t, j, n));
            }
            default -> {
                int what = pick(0, 7);
                due("count " + what, camp.count(what), model.count(what));
                due("digest", camp.digest(), model.digest());
            }
        }
        due("count 7", camp.count(7), model.count(7));
    }
}
