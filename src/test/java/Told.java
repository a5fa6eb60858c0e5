import java.util.function.Supplier;

/** Tells in one text all that can be asked of a hall, and what it answers to calls that come later. */
final class Told {
    private final Quietpaper x;
    private final StringBuilder text = new StringBuilder();

    private Told(Quietpaper x) {
        this.x = x;
    }

    /** Some 400 calls at most, so that an object that is told stays below the 512 that it is used for. */
    static String of(Quietpaper x) {
        Told told = new Told(x);
        told.hall();
        told.seconds();
        told.people();
        told.later();
        return told.text.toString();
    }

    private void add(String call, Supplier<Object> asked) {
        Object answer;
        try {
            answer = asked.get();
        } catch (RuntimeException e) {
            answer = e.getClass().getSimpleName();
        }
        text.append(call).append(" = ").append(answer).append('\n');
    }

    private void hall() {
        for (int k = 0; k < 8; k++) {
            int what = k;
            add("hall " + what, () -> x.hall(what));
        }
        for (int k = 0; k < 6; k++) {
            int row = k;
            add("refund " + row, () -> x.refund(row));
        }
        add("isSound", x::isSound);
        add("digest", x::digest);
    }

    private void seconds() {
        for (int k = 0; k < 100; k++) {
            int second = k / 5;
            int what = k % 5;
            add("ofSecond " + second + " " + what, () -> x.ofSecond(second, what));
        }
        add("suspects", () -> x.suspects(0, 0, 40));
    }

    private void people() {
        int people = x.hall(0);
        for (int k = 0; k < people; k++) {
            int person = k;
            for (int j = 0; j < 20; j++) {
                int second = j;
                add("minds " + person + " " + second, () -> x.minds(person, second));
            }
            for (int j = 0; j < 8; j++) {
                int what = j;
                add("ofPerson " + person + " " + what, () -> x.ofPerson(person, what));
            }
            add("would " + person, () -> x.would(person, 19, 99));
            add("plan " + person, () -> x.plan(person, 8, 2, 0));
            add("coughing " + person, () -> x.coughing(1 << person, 0));
        }
    }

    private void later() {
        int all = (1 << x.hall(0)) - 1;
        add("noise", () -> x.noise(0, 19, 111));
        add("cough", () -> x.cough(all));
        add("unwrap", () -> x.unwrap(0, 4, 2, 0));
        add("digest", x::digest);
        add("knock", x::knock);
        add("evening", x::evening);
        add("person", () -> x.person(4, 4, 4));
        add("person", () -> x.person(4, 4, 4));
        add("music", () -> x.music(3, 9, 33));
        add("throat", () -> x.throat(0, 8));
        add("paper", () -> x.paper(0, true));
        add("cough", () -> x.cough(1));
        add("unwrap", () -> x.unwrap(0, 9, 3, 0));
        add("noise", () -> x.noise(0, 0, 88));
        add("digest", x::digest);
        add("evening", x::evening);
    }
}
