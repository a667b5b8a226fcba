import java.util.ArrayList;
import java.util.List;
import java.util.function.IntSupplier;

/**
 * Asks a library all that can be asked, then uses it up: what a library holds shows in the answers. Two
 * libraries that answer the same are the same as far as any caller can tell.
 */
final class Probe {
    private static final int TAPES = 8;
    private static final int DRIVES = 3;

    private final TapeRobotics x;
    private final List<String> answers = new ArrayList<>();

    private Probe(TapeRobotics x) {
        this.x = x;
    }

    /** Takes less than 300 calls of the 512 that a library answers. */
    static List<String> of(TapeRobotics x) {
        Probe probe = new Probe(x);
        probe.lookAtTapes();
        probe.lookAtDrives();
        probe.emptyTheDrives();
        probe.loseAndFindLabels();
        probe.workAtEachTape();
        probe.addOneOfEach();
        return probe.answers;
    }

    /** The answer, or -2 where the call throws: what it throws stands in the list as well. */
    private int ask(String call, IntSupplier asked) {
        String answer;
        int number = -2;
        try {
            number = asked.getAsInt();
            answer = String.valueOf(number);
        } catch (RuntimeException e) {
            answer = e.getClass().getName();
        }
        answers.add(call + " then answers " + answer);
        return number;
    }

    private void lookAtTapes() {
        ask("next()", x::next);
        ask("done()", x::done);
        for (int each = 0; each < TAPES; each++) {
            int tape = each;
            ask("placeOf(" + tape + ")", () -> x.placeOf(tape));
            int files = ask("files(" + tape + ")", () -> x.files(tape));
            ask("start(" + tape + ", the last file)", () -> x.start(tape, files - 1));
            ask("along(" + tape + ", 4)", () -> x.along(tape, 4));
            ask("along(" + tape + ", 8)", () -> x.along(tape, 8));
            ask("waiting(" + tape + ")", () -> x.waiting(tape));
        }
    }

    private void lookAtDrives() {
        for (int each = 0; each < DRIVES; each++) {
            int drive = each;
            ask("clock(" + drive + ")", () -> x.clock(drive));
            ask("stands(" + drive + ")", () -> x.stands(drive));
            lookAtOrders(drive);
        }
    }

    private void lookAtOrders(int drive) {
        ask("bestTime(" + drive + ")", () -> x.bestTime(drive));
        ask("insertedTime(" + drive + ")", () -> x.insertedTime(drive));
        ask("triedTime(" + drive + ")", () -> x.triedTime(drive));
        int job = 0;
        for (int each = 0; each < 8 && job >= 0; each++) {
            int place = each;
            job = ask("bestJob(" + drive + ", " + place + ")", () -> x.bestJob(drive, place));
        }
    }

    private void emptyTheDrives() {
        for (int each = 0; each < DRIVES; each++) {
            int drive = each;
            ask("work(" + drive + ")", () -> x.work(drive));
            ask("unmount(" + drive + ")", () -> x.unmount(drive));
            ask("clean(" + drive + ")", () -> x.clean(drive));
        }
    }

    private void loseAndFindLabels() {
        for (int each = 0; each < TAPES; each++) {
            int tape = each;
            ask("lose(" + tape + ")", () -> x.lose(tape));
        }
        ask("inventory()", x::inventory);
    }

    private void workAtEachTape() {
        for (int each = 0; each < TAPES; each++) {
            int tape = each;
            ask("next()", x::next);
            ask("mount(0, " + tape + ")", () -> x.mount(0, tape));
            lookAtOrders(0);
            ask("work(0)", () -> x.work(0));
            ask("unmount(0)", () -> x.unmount(0));
            ask("clean(0)", () -> x.clean(0));
        }
        ask("done()", x::done);
    }

    // Last of all, for where a library is full these calls are refused, and might change it.
    private void addOneOfEach() {
        for (int each = 0; each < TAPES; each++) {
            int tape = each;
            ask("job(" + tape + ", 0, 700)", () -> x.job(tape, 0, 700));
        }
        int tape = ask("tape(1, 4)", () -> x.tape(1, 4));
        ask("placeOf the new tape", () -> x.placeOf(tape));
        ask("drive(SWIFT)", () -> x.drive(TapeRobotics.SWIFT));
    }
}
