import java.util.ArrayList;
import java.util.List;

/** A run of calls on a new object, with what is wrong in their answers. */
final class Run {
    private static final int MOST_CALLS = 512;

    private final Calls calls = new Calls(new BentPictures());
    private final List<String> wrong;
    private int made = 0;

    Run() {
        this(new ArrayList<>());
    }

    private Run(List<String> wrong) {
        this.wrong = wrong;
    }

    /** One more new object, for the same test. */
    Run another() {
        return new Run(wrong);
    }

    long ask(String name, int... numbers) {
        made++;
        if (made == MOST_CALLS + 1) {
            wrong.add("the run goes on beyond " + MOST_CALLS + " calls, where answers are free");
        }
        return calls.call(name, numbers);
    }

    /** A call with the answer that is due. */
    Run due(long due, String name, int... numbers) {
        long got = ask(name, numbers);
        if (got != due) {
            wrong.add(Calls.text(name, numbers) + " answered " + got + ", due is " + due);
        }
        return this;
    }

    /** A call that brings about what is needed: it may answer anything but a refusal or a FAULT. */
    Run does(String name, int... numbers) {
        long got = ask(name, numbers);
        if (got < 0 && got != BentPictures.NONE) {
            wrong.add(Calls.text(name, numbers) + " was refused: " + got);
        }
        return this;
    }

    /** A SHEET of ints comes to have these numbers. */
    Run row(int k, int... numbers) {
        return rowOf(2, k, numbers);
    }

    Run rowOf(int lane, int k, int... numbers) {
        does("sheet", k, lane, numbers.length);
        for (int i = 0; i < numbers.length; i++) {
            if (numbers[i] != 0) {
                does("put", k, i, numbers[i]);
            }
        }
        return this;
    }

    /** An EYE's PICTURE comes to have these COLOURS, by SHEET 3. */
    Run show(int e, int... colours) {
        row(3, colours);
        return does("picture", e, 3, 2, 0);
    }

    int callsMade() {
        return made;
    }

    List<String> wrong() {
        return wrong;
    }
}
