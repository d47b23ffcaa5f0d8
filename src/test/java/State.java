import java.util.ArrayList;
import java.util.List;
import java.util.function.Consumer;
import java.util.function.ToLongFunction;

/** What all calls tell of a camp. Objects made alike are asked in turn, as one is used for 512 calls at most. */
final class State {
    private static final int ASKED_OF_ONE = 250;
    private static final int[] HOURS = {0, 8, 9};

    private static final class Question {
        final String name;
        final ToLongFunction<CampWeek> ask;

        Question(String name, ToLongFunction<CampWeek> ask) {
            this.name = name;
            this.ask = ask;
        }
    }

    private static final List<Question> QUESTIONS = questions();

    private final long[] answers = new long[QUESTIONS.size()];
    private final long finding;

    /** The state of objects that are made so. */
    State(Consumer<CampWeek> made) {
        CampWeek x = null;
        for (int i = 0; i < answers.length; i++) {
            if (i % ASKED_OF_ONE == 0) {
                x = new CampWeek();
                made.accept(x);
            }
            answers[i] = QUESTIONS.get(i).ask.applyAsLong(x);
        }
        x = new CampWeek();
        made.accept(x);
        finding = x.count(7);
    }

    long latestFinding() {
        return finding;
    }

    /** The first question that is answered otherwise, leaving the latest finding aside; null: there is none. */
    String differsFrom(State other) {
        for (int i = 0; i < answers.length; i++) {
            if (answers[i] != other.answers[i]) {
                return QUESTIONS.get(i).name;
            }
        }
        return null;
    }

    /** First those that change nothing, then those that do, so that these are asked of alike objects too. */
    private static List<Question> questions() {
        List<Question> all = new ArrayList<>();
        askHutsAndParties(all);
        askSittings(all);
        askShows(all);
        askChildrenAndLists(all);
        askSheets(all);
        askByChanging(all);
        return all;
    }

    private static void add(List<Question> all, String name, ToLongFunction<CampWeek> ask) {
        all.add(new Question(name, ask));
    }

    private static void askHutsAndParties(List<Question> all) {
        add(all, "moved", CampWeek::moved);
        add(all, "digest", CampWeek::digest);
        for (int i = 0; i <= 6; i++) {
            int what = i;
            add(all, "count " + what, x -> x.count(what));
        }
        for (int i = 0; i < 24 * 6; i++) {
            int party = i / 6;
            int what = i % 6;
            add(all, "about " + party + " " + what, x -> x.about(party, what));
        }
        for (int i = 0; i < 30 * 10; i++) {
            int hut = i / 10;
            int week = i % 10;
            add(all, "in " + hut + " " + week, x -> x.in(hut, week));
        }
    }

    private static void askSittings(List<Question> all) {
        for (int i = 0; i < 10; i++) {
            int week = i;
            add(all, "empty " + week, x -> x.empty(week));
            add(all, "apart " + week, x -> x.apart(week));
            add(all, "foretell " + week + " 0", x -> x.foretell(week, 0));
            add(all, "foretell " + week + " 1", x -> x.foretell(week, 1));
        }
        for (int i = 0; i < 24 * 10; i++) {
            int party = i / 10;
            int week = i % 10;
            add(all, "sits " + party + " " + week, x -> x.sits(party, week));
        }
        for (int i = 0; i < 40 * 5; i++) {
            int line = i / 5;
            int what = i % 5;
            add(all, "line " + line + " " + what, x -> x.line(line, what));
        }
    }

    private static void askShows(List<Question> all) {
        for (int i = 0; i < 40; i++) {
            int hour = i;
            add(all, "wet " + hour, x -> x.wet(hour));
        }
        for (int i = 0; i < 12; i++) {
            int show = i;
            add(all, "where " + show, x -> x.where(show));
            add(all, "crowd " + show + " 0", x -> x.crowd(show, 0));
            add(all, "crowd " + show + " 1", x -> x.crowd(show, 1));
        }
        for (int i = 0; i < 24 * HOURS.length; i++) {
            int party = i / HOURS.length;
            int hour = HOURS[i % HOURS.length];
            add(all, "goes " + party + " 0 " + hour, x -> x.goes(party, 0, hour));
            add(all, "turned " + party + " 0 " + hour, x -> x.turned(party, 0, hour));
        }
    }

    private static void askChildrenAndLists(List<Question> all) {
        for (int i = 0; i < 40; i++) {
            int child = i;
            add(all, "with " + child, x -> x.with(child));
        }
        for (int i = 0; i < 100; i++) {
            int day = i / 10 * 5;
            int notice = i % 10;
            add(all, "pays " + day + " " + notice, x -> x.pays(day, notice));
        }
    }

    private static void askSheets(List<Question> all) {
        for (int i = 0; i < 4 * 3 * 61; i++) {
            int sheet = i / 3 / 61;
            int form = i / 61 % 3;
            int item = i % 61;
            add(all, "get " + sheet + " " + form + " " + item, x -> x.get(sheet, form, item));
        }
        for (int i = 0; i < 4; i++) {
            int sheet = i;
            add(all, "lose " + sheet, x -> x.lose(sheet));
        }
    }

    private static void askByChanging(List<Question> all) {
        add(all, "more", x -> x.more(0));
        for (int i = 0; i < 6; i++) {
            int hall = i;
            add(all, "hall " + hall, x -> x.hall(hall, 0));
        }
        for (int i = 0; i < 24 * 24; i++) {
            int party = i / 24;
            int other = i % 24;
            add(all, "tell " + party + " " + other, x -> x.tell(party, other, 2));
        }
        for (int i = 0; i < 24 * 12; i++) {
            int party = i / 12;
            int show = i % 12;
            add(all, "wish " + party + " " + show, x -> x.wish(party, show));
        }
        for (int i = 0; i < 40; i++) {
            int child = i;
            add(all, "hand " + child, x -> x.hand(child));
            add(all, "fetch " + child, x -> x.fetch(child, 0));
        }
        for (int i = 0; i < 4; i++) {
            int g = i;
            add(all, "group " + g, x -> x.group(g, 4 * g, 4 * g + 3, 1));
        }
        for (int i = 0; i < 24; i++) {
            int party = i;
            add(all, "child " + party, x -> x.child(party, 0));
            add(all, "leave " + party, x -> x.leave(party));
            add(all, "lodge " + party, x -> x.lodge(party));
        }
        add(all, "list", x -> x.list(0, 0, 0));
        add(all, "hut", x -> x.hut(0, 1));
        add(all, "party", x -> x.party(1, 0, 0, 0, -1));
        add(all, "show", x -> x.show(0, 0, -1));
        add(all, "cook", x -> x.cook(0, 0, 0));
    }
}
