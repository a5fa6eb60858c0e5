import java.util.ArrayList;
import java.util.List;
import java.util.function.Consumer;
import java.util.function.Supplier;

/** Counts what was asked and prints each answer that is not the one that is due. */
final class Checks {
    private final String name;
    private final List<String> wrong = new ArrayList<>();
    private int asked = 0;

    Checks(String name) {
        this.name = name;
    }

    void due(String call, Object got, Object want) {
        asked++;
        if (!want.equals(got)) {
            wrong.add(call + " answered " + got + ", due is " + want);
        }
    }

    void holds(String what, boolean is) {
        due(what, is, true);
    }

    /** Asks that the call throws just this kind of exception and that nothing is changed by it. */
    void throwing(String call, Class<? extends RuntimeException> kind, Quietpaper x, Runnable run) {
        long before = x.digest();
        Object thrown = "nothing";
        try {
            run.run();
        } catch (RuntimeException e) {
            thrown = e.getClass();
        }
        due(call + " throws", thrown, kind);
        due("digest() after " + call, x.digest(), before);
    }

    /** Asks that the call throws just this kind, and that the hall then tells all that one without that call does. */
    void refused(String call, Class<? extends RuntimeException> kind, Supplier<Quietpaper> hall,
            Consumer<Quietpaper> refused) {
        Quietpaper x = hall.get();
        Object thrown = "nothing";
        try {
            refused.accept(x);
        } catch (RuntimeException e) {
            thrown = e.getClass();
        }
        due(call + " throws", thrown, kind);
        due("all that is asked after " + call, Told.of(x), Told.of(hall.get()));
    }

    void end() {
        for (String line : wrong) {
            System.out.println(name + ": " + line);
        }
        System.out.println(name + ": " + asked + " asked, " + wrong.size() + " wrong");
        if (asked == 0 || !wrong.isEmpty()) {
            System.exit(1);
        }
    }
}
