import java.util.ArrayList;
import java.util.Arrays;
import java.util.Comparator;
import java.util.HashMap;
import java.util.List;
import java.util.Map;
import java.util.TreeMap;

/** The document written a second time, slowly and in other ways than the class, for comparing answers. */
final class Model {
    static final int NONE = -1, BAD = -2, NOT = -3, FULL = -4;
    private static final int TRIED_ONE_BY_ONE = 9;

    private static final class Hut {
        int number, row, beds;
    }

    private static final class Party {
        int number, size, children, from, to, table;
        Hut hut;
        final List<Show> wishes = new ArrayList<>();

        boolean stays(int week) {
            return hut != null && week >= from && week <= to;
        }
    }

    private static final class Show {
        int number, hall, hour, wetHall;
    }

    private static final class Child {
        int age, group = NONE;
        Party party;
    }

    private static final class Sheet {
        int form;
        int[] items;
    }

    /** Where all went at an hour, and from how many shows they were turned away. */
    private static final class Crowds {
        final Map<Party, Show> went = new HashMap<>();
        final Map<Party, Integer> turned = new HashMap<>();
    }

    private final List<Hut> huts = new ArrayList<>();
    private final List<Party> parties = new ArrayList<>();
    private final Map<Integer, Integer> told = new HashMap<>();
    private final List<Show> shows = new ArrayList<>();
    private final List<Child> children = new ArrayList<>();
    private final List<int[]> book = new ArrayList<>();
    private final List<int[]> lists = new ArrayList<>();
    private final Sheet[] sheets = new Sheet[4];
    private final int[] rooms = {0, 0, 0, 0, 0, 0, 1000};
    private final int[][] groups = new int[4][];
    private final int[] seats = {60, 60};
    private int part = 10;
    private int moved = NONE;
    private int finding = 0;

    private static boolean out(int n, int least, int most) {
        return n < least || n > most;
    }

    private <T> T find(List<T> all, int i) {
        return out(i, 0, all.size() - 1) ? null : all.get(i);
    }

    private static boolean weeksTogether(Party a, Party b) {
        for (int week = 0; week < 10; week++) {
            if (!out(week, a.from, a.to) && !out(week, b.from, b.to)) {
                return true;
            }
        }
        return false;
    }

    private int tellingOf(Party a, Party b) {
        return told.getOrDefault(Math.min(a.number, b.number) * 100 + Math.max(a.number, b.number), 2);
    }

    int hut(int row, int beds) {
        if (out(row, 0, 5) || out(beds, 1, 8)) {
            return BAD;
        }
        if (huts.size() == 30) {
            return FULL;
        }
        Hut hut = new Hut();
        hut.number = huts.size();
        hut.row = row;
        hut.beds = beds;
        huts.add(hut);
        return hut.number;
    }

    int party(int size, int kids, int from, int to, int table) {
        if (out(size, 1, 8) || out(kids, 0, size) || out(from, 0, 9) || out(to, from, 9) || out(table, -1, 9)) {
            return BAD;
        }
        if (parties.size() == 24) {
            return FULL;
        }
        Party party = new Party();
        party.number = parties.size();
        party.size = size;
        party.children = kids;
        party.from = from;
        party.to = to;
        party.table = table;
        parties.add(party);
        return party.number;
    }

    int tell(int a, int b, int kind) {
        Party one = find(parties, a);
        Party two = find(parties, b);
        if (one == null || two == null || one == two || out(kind, 0, 2)) {
            return BAD;
        }
        boolean oneRow = one.hut != null && two.hut != null && one.hut.row == two.hut.row;
        if (kind == 1 && oneRow && weeksTogether(one, two)) {
            return NOT;
        }
        int before = tellingOf(one, two);
        told.put(Math.min(a, b) * 100 + Math.max(a, b), kind);
        return before;
    }

    private boolean neighbourTold(Party party, Hut hut, int kind) {
        return parties.stream().anyMatch(p -> p != party && p.hut != null && p.hut.row == hut.row
                && tellingOf(p, party) == kind && weeksTogether(p, party));
    }

    private boolean isOpen(Party party, Hut hut) {
        boolean taken = parties.stream().anyMatch(p -> p != party && p.hut == hut && weeksTogether(p, party));
        return hut.beds >= party.size && !taken && !neighbourTold(party, hut, 1);
    }

    private Hut dearest(Party party) {
        return huts.stream().filter(h -> isOpen(party, h)).min(
                Comparator.comparing((Hut h) -> !neighbourTold(party, h, 0))
                        .thenComparing(h -> h.beds).thenComparing(h -> h.number)).orElse(null);
    }

    int lodge(int number) {
        Party party = find(parties, number);
        if (party == null) {
            return BAD;
        }
        if (party.hut != null) {
            return NOT;
        }
        Hut hut = dearest(party);
        if (hut != null) {
            party.hut = hut;
            moved = NONE;
            return hut.number;
        }
        for (Party other : parties) {
            Hut old = other.hut;
            if (old == null) {
                continue;
            }
            other.hut = null;
            if (isOpen(party, old)) {
                party.hut = old;
                Hut elsewhere = dearest(other);
                if (elsewhere != null && elsewhere != old) {
                    other.hut = elsewhere;
                    moved = other.number;
                    return old.number;
                }
                party.hut = null;
            }
            other.hut = old;
        }
        return NONE;
    }

    int moved() {
        return moved;
    }

    int leave(int number) {
        Party party = find(parties, number);
        if (party == null) {
            return BAD;
        }
        if (party.hut == null) {
            return NOT;
        }
        int hut = party.hut.number;
        party.hut = null;
        return hut;
    }

    int about(int number, int what) {
        Party p = find(parties, number);
        if (p == null || out(what, 0, 5)) {
            return BAD;
        }
        int hut = p.hut == null ? NONE : p.hut.number;
        return new int[] {p.size, p.children, p.from, p.to, p.table, hut}[what];
    }

    int in(int number, int week) {
        Hut hut = find(huts, number);
        if (hut == null || out(week, 0, 9)) {
            return BAD;
        }
        return parties.stream().filter(p -> p.hut == hut && p.stays(week)).mapToInt(p -> p.number)
                .findFirst().orElse(NONE);
    }

    int empty(int week) {
        if (out(week, 0, 9)) {
            return BAD;
        }
        return huts.stream().filter(h -> in(h.number, week) == NONE).mapToInt(h -> h.beds).sum();
    }

    int seats(int first, int second) {
        if (out(first, 0, 200) || out(second, 0, 200)) {
            return BAD;
        }
        seats[0] = first;
        seats[1] = second;
        return 1;
    }

    /** Bit 23 - p is set for each party p in sitting 1, so the first of like ways is the least number. */
    private Integer sittings(int week) {
        List<Party> there = parties.stream().filter(p -> p.stays(week)).toList();
        List<Integer> ways = there.size() <= TRIED_ONE_BY_ONE ? allWays(there) : leastWays(there);
        Integer best = null;
        int bestGap = 0;
        for (int way : ways) {
            int second = there.stream().filter(p -> isSecond(way, p)).mapToInt(p -> p.size).sum();
            int first = there.stream().mapToInt(p -> p.size).sum() - second;
            int gap = Math.abs(first - second);
            boolean better = best == null || gap < bestGap || gap == bestGap && way < best;
            if (first <= seats[0] && second <= seats[1] && better) {
                best = way;
                bestGap = gap;
            }
        }
        return best;
    }

    private static boolean isSecond(int way, Party p) {
        return (way >> (23 - p.number) & 1) == 1;
    }

    private static List<Integer> allWays(List<Party> there) {
        List<Integer> ways = new ArrayList<>();
        for (int bits = 0; bits < 1 << there.size(); bits++) {
            int way = 0;
            for (int i = 0; i < there.size(); i++) {
                way |= (bits >> i & 1) << (23 - there.get(i).number);
            }
            boolean together = true;
            for (Party a : there) {
                for (Party b : there) {
                    together &= a.table == NONE || a.table != b.table || isSecond(way, a) == isSecond(way, b);
                }
            }
            if (together) {
                ways.add(way);
            }
        }
        return ways;
    }

    /** Of each number of people in sitting 1 the least way alone. */
    private static List<Integer> leastWays(List<Party> there) {
        TreeMap<Integer, int[]> units = new TreeMap<>();
        for (Party p : there) {
            int[] unit = units.computeIfAbsent(p.table == NONE ? 100 + p.number : p.table, k -> new int[2]);
            unit[0] += p.size;
            unit[1] |= 1 << (23 - p.number);
        }
        Map<Integer, Integer> least = new HashMap<>();
        least.put(0, 0);
        for (int[] unit : units.values()) {
            Map<Integer, Integer> next = new HashMap<>(least);
            least.forEach((people, way) -> next.merge(people + unit[0], way | unit[1], Math::min));
            least = next;
        }
        return new ArrayList<>(least.values());
    }

    private int peopleOf(int week, int sitting, boolean onlyChildren) {
        int way = sittings(week);
        return parties.stream().filter(p -> p.stays(week) && isSecond(way, p) == (sitting == 1))
                .mapToInt(p -> onlyChildren ? p.children : p.size).sum();
    }

    int apart(int week) {
        if (out(week, 0, 9)) {
            return BAD;
        }
        return sittings(week) == null ? NONE : Math.abs(peopleOf(week, 0, false) - peopleOf(week, 1, false));
    }

    int sits(int number, int week) {
        Party party = find(parties, number);
        if (party == null || out(week, 0, 9)) {
            return BAD;
        }
        Integer way = sittings(week);
        return way == null || !party.stays(week) ? NONE : isSecond(way, party) ? 1 : 0;
    }

    int more(int next) {
        if (out(next, 0, 50)) {
            return BAD;
        }
        int before = part;
        part = next;
        return before;
    }

    int foretell(int week, int sitting) {
        if (out(week, 0, 9) || out(sitting, 0, 1)) {
            return BAD;
        }
        if (sittings(week) == null) {
            return NONE;
        }
        int kids = peopleOf(week, sitting, true);
        return peopleOf(week, sitting, false) - kids + kids / 2;
    }

    int cook(int week, int sitting, int come) {
        if (out(week, 0, 9) || out(sitting, 0, 1) || out(come, 0, 500)) {
            return BAD;
        }
        int foretold = foretell(week, sitting);
        if (foretold == NONE) {
            return NOT;
        }
        if (book.size() == 40) {
            return FULL;
        }
        int cooked = foretold + foretold * part / 100;
        book.add(new int[] {week, sitting, foretold, cooked, come});
        int left = cooked - come;
        return left < 0 ? -1000 + left : left;
    }

    int line(int i, int what) {
        int[] line = find(book, i);
        return line == null || out(what, 0, 4) ? BAD : line[what];
    }

    int hall(int h, int room) {
        if (out(h, 0, 5) || out(room, 0, 500)) {
            return BAD;
        }
        int before = rooms[h];
        rooms[h] = room;
        return before;
    }

    int show(int hall, int hour, int wet) {
        if (out(hall, -1, 5) || out(hour, 0, 39) || out(wet, -1, hall == NONE ? 5 : -1)) {
            return BAD;
        }
        if (shows.size() == 12) {
            return FULL;
        }
        Show show = new Show();
        show.number = shows.size();
        show.hall = hall;
        show.hour = hour;
        show.wetHall = wet;
        shows.add(show);
        return show.number;
    }

    int wish(int number, int s) {
        Party party = find(parties, number);
        Show show = find(shows, s);
        if (party == null || show == null || party.wishes.contains(show)) {
            return BAD;
        }
        if (party.wishes.size() == 6) {
            return FULL;
        }
        party.wishes.add(show);
        return party.wishes.size();
    }

    int wet(int hour) {
        if (out(hour, 0, 39)) {
            return BAD;
        }
        for (int h = hour; h >= 0 && h / 8 == hour / 8; h--) {
            if (sheets[0] != null && h < sheets[0].items.length && sheets[0].items[h] > 0) {
                return 1;
            }
        }
        return 0;
    }

    int where(int s) {
        Show show = find(shows, s);
        if (show == null) {
            return BAD;
        }
        return show.hall >= 0 ? show.hall : wet(show.hour) == 1 ? show.wetHall : 6;
    }

    private Crowds crowds(int week, int hour) {
        Crowds crowds = new Crowds();
        int[] used = new int[7];
        for (Party party : parties) {
            int turned = 0;
            for (Show show : party.wishes) {
                boolean on = show.hour == hour && where(show.number) != NONE;
                if (!on || !party.stays(week) || crowds.went.containsKey(party)) {
                    continue;
                }
                int place = where(show.number);
                if (used[place] + party.size <= rooms[place]) {
                    used[place] += party.size;
                    crowds.went.put(party, show);
                } else {
                    turned++;
                }
            }
            crowds.turned.put(party, turned);
        }
        return crowds;
    }

    int goes(int number, int week, int hour) {
        Party party = find(parties, number);
        if (party == null || out(week, 0, 9) || out(hour, 0, 39)) {
            return BAD;
        }
        Show show = crowds(week, hour).went.get(party);
        return show == null ? NONE : show.number;
    }

    int turned(int number, int week, int hour) {
        Party party = find(parties, number);
        if (party == null || out(week, 0, 9) || out(hour, 0, 39)) {
            return BAD;
        }
        return crowds(week, hour).turned.get(party);
    }

    int crowd(int s, int week) {
        Show show = find(shows, s);
        if (show == null || out(week, 0, 9)) {
            return BAD;
        }
        return crowds(week, show.hour).went.entrySet().stream().filter(e -> e.getValue() == show)
                .mapToInt(e -> e.getKey().size).sum();
    }

    int group(int g, int from, int to, int most) {
        if (out(g, 0, 3) || out(from, 0, 17) || out(to, from, 17) || out(most, 1, 20)) {
            return BAD;
        }
        for (int age = from; age <= to; age++) {
            if (groupOfAge(age) != NONE && groupOfAge(age) != g) {
                return BAD;
            }
        }
        if (children.stream().anyMatch(c -> c.group == g)) {
            return NOT;
        }
        groups[g] = new int[] {from, to, most};
        return 1;
    }

    private int groupOfAge(int age) {
        for (int g = 0; g < 4; g++) {
            if (groups[g] != null && !out(age, groups[g][0], groups[g][1])) {
                return g;
            }
        }
        return NONE;
    }

    int child(int number, int age) {
        Party party = find(parties, number);
        if (party == null || out(age, 0, 17)) {
            return BAD;
        }
        if (children.size() == 40 || children.stream().filter(c -> c.party == party).count() >= party.children) {
            return FULL;
        }
        Child child = new Child();
        child.party = party;
        child.age = age;
        children.add(child);
        return children.size() - 1;
    }

    int hand(int number) {
        Child child = find(children, number);
        if (child == null) {
            return BAD;
        }
        int g = groupOfAge(child.age);
        if (g == NONE || child.group == g) {
            return NOT;
        }
        if (children.stream().filter(c -> c.group == g).count() >= groups[g][2]) {
            return FULL;
        }
        child.group = g;
        return g;
    }

    int fetch(int number, int p) {
        Child child = find(children, number);
        Party party = find(parties, p);
        if (child == null || party == null) {
            return BAD;
        }
        if (child.group == NONE || child.party != party) {
            return NOT;
        }
        child.group = NONE;
        return 1;
    }

    int with(int number) {
        Child child = find(children, number);
        return child == null ? BAD : child.group;
    }

    int list(int day, int notice, int hundredths) {
        if (out(day, 0, 999) || out(notice, 0, 99) || out(hundredths, 0, 100)) {
            return BAD;
        }
        if (lists.size() == 30) {
            return FULL;
        }
        lists.add(new int[] {day, notice, hundredths});
        return lists.size();
    }

    int pays(int day, int notice) {
        if (out(day, 0, 999) || out(notice, 0, 999)) {
            return BAD;
        }
        for (int d = day; d >= 0; d--) {
            int listDay = d;
            List<int[]> ofDay = lists.stream().filter(l -> l[0] == listDay).toList();
            if (!ofDay.isEmpty()) {
                return ofDay.stream().filter(l -> l[1] <= notice).mapToInt(l -> l[2]).max().orElse(0);
            }
        }
        return 0;
    }

    private int found(int number) {
        finding = number;
        return -10 - number;
    }

    int sheet(int s, int form, int n) {
        if (out(s, 0, 3) || out(form, 0, 2) || n > 60) {
            return BAD;
        }
        if (n < 0) {
            return found(5);
        }
        sheets[s] = new Sheet();
        sheets[s].form = form;
        sheets[s].items = new int[n];
        return n;
    }

    int lose(int s) {
        if (out(s, 0, 3)) {
            return BAD;
        }
        if (sheets[s] == null) {
            return found(1);
        }
        int n = sheets[s].items.length;
        sheets[s] = null;
        return n;
    }

    private int why(int s, int form, int i) {
        if (out(s, 0, 3) || out(form, 0, 2)) {
            return BAD;
        }
        if (sheets[s] == null) {
            return found(1);
        }
        if (sheets[s].form != form) {
            return found(3);
        }
        return out(i, 0, sheets[s].items.length - 1) ? found(2) : 0;
    }

    int put(int s, int form, int i, int v) {
        int why = why(s, form, i);
        if (why != 0) {
            return why;
        }
        int unused = 32 - new int[] {8, 16, 32}[form];
        sheets[s].items[i] = v << unused >> unused;
        return 1;
    }

    int get(int s, int form, int i) {
        return why(s, form, i) != 0 ? Integer.MIN_VALUE : sheets[s].items[i];
    }

    int copy(int s, int i, int t, int j, int n) {
        if (out(s, 0, 3) || out(t, 0, 3)) {
            return BAD;
        }
        if (sheets[s] == null || sheets[t] == null) {
            return found(1);
        }
        if (sheets[s].form != sheets[t].form) {
            return found(4);
        }
        int[] from = sheets[s].items;
        int[] to = sheets[t].items;
        if (i < 0 || j < 0 || n < 0 || (long) i + n > from.length || (long) j + n > to.length) {
            return found(2);
        }
        int[] asTheyWere = Arrays.copyOf(from, from.length);
        for (int k = 0; k < n; k++) {
            to[j + k] = asTheyWere[i + k];
        }
        return 1;
    }

    int count(int what) {
        if (out(what, 0, 7)) {
            return BAD;
        }
        int lodged = (int) parties.stream().filter(p -> p.hut != null).count();
        return new int[] {huts.size(), parties.size(), lodged, shows.size(), children.size(), book.size(),
            lists.size(), finding}[what];
    }

    long digest() {
        List<Integer> parts = new ArrayList<>();
        for (int what = 0; what <= 6; what++) {
            parts.add(count(what));
        }
        parties.forEach(p -> parts.add(about(p.number, 5)));
        for (int week = 0; week < 10; week++) {
            parts.add(apart(week));
        }
        shows.forEach(s -> parts.add(where(s.number)));
        children.forEach(c -> parts.add(c.group));
        long h = 17;
        for (int p : parts) {
            h = 31 * h + p;
        }
        return h;
    }
}
