import java.util.Random;
import java.util.function.IntSupplier;

/**
 * Runs of 512 calls, drawn from fixed seeds, on a TapeRobotics and a Model at once: each call has to answer
 * the same or throw the same. Answers behind a call that threw tell whether it changed something.
 */
public final class ModelTest {
    private static final int RUNS = 600;
    private static final int CALLS = 512;
    private static final int[] FAR = {-1, 12, 60, Integer.MIN_VALUE, Integer.MAX_VALUE};

    private final Random random;
    private final TapeRobotics program = new TapeRobotics();
    private final Model model = new Model();
    private final int tapes;
    private final int drives;
    private final boolean small;
    private final boolean busy;
    private String call = "";

    private ModelTest(int seed) {
        random = new Random(seed);
        tapes = 1 + random.nextInt(8);
        drives = 1 + random.nextInt(3);
        small = random.nextInt(3) == 0;
        busy = random.nextInt(2) == 0;
    }

    public static void main(String[] args) {
        for (int seed = 0; seed < RUNS; seed++) {
            ModelTest test = new ModelTest(seed);
            for (int i = 0; i < CALLS; i++) {
                test.step(seed, i);
            }
        }
        Check.end();
    }

    private void step(int seed, int i) {
        IntSupplier[] both = i < 2 * (tapes + drives) ? setUp() : draw();
        Check.due("seed " + seed + ", call " + i + ": " + call, outcome(both[0]), outcome(both[1]));
    }

    /** An answer, or a number that no call can answer for each exception. */
    private static long outcome(IntSupplier supplier) {
        try {
            return supplier.getAsInt();
        } catch (RuntimeException e) {
            Class<?> kind = e.getClass();
            return kind == IndexOutOfBoundsException.class ? 1L << 40
                    : kind == IllegalArgumentException.class ? 1L << 41
                    : kind == IllegalStateException.class ? 1L << 42 : 1L << 43;
        }
    }

    private IntSupplier[] pair(String name, IntSupplier ofProgram, IntSupplier ofModel) {
        call = name;
        return new IntSupplier[] {ofProgram, ofModel};
    }

    private int below(int bound) {
        return random.nextInt(30) == 0 ? FAR[random.nextInt(FAR.length)] : random.nextInt(bound);
    }

    /** Mostly a file that is there. */
    private int fileOf(int tape) {
        boolean known = tape >= 0 && tape < model.tapes.size() && model.files(tape) > 0;
        return known && random.nextInt(10) != 0 ? random.nextInt(model.files(tape)) : below(11);
    }

    private int fileIn(int drive) {
        boolean known = drive >= 0 && drive < model.drives.size() && model.drives.get(drive).tape != null;
        return fileOf(known ? model.tapes.indexOf(model.drives.get(drive).tape) : -1);
    }

    private IntSupplier[] setUp() {
        if (model.drives.size() < drives) {
            int make = below(2);
            return pair("drive(" + make + ")", () -> program.drive(make), () -> model.drive(make));
        }
        int tracks = 1 + below(small ? 2 : 8);
        int length = 4 + below(small ? 9 : 197);
        return pair("tape(" + tracks + ", " + length + ")",
                () -> program.tape(tracks, length), () -> model.tape(tracks, length));
    }

    private IntSupplier[] draw() {
        int kind = random.nextInt(100);
        // A busy library unmounts, cleans and loses less often, so that jobs gather at its tapes.
        if (busy && (kind >= 14 && kind < 32 || kind >= 97) && random.nextInt(4) != 0) {
            kind = 58 + random.nextInt(39);
        }
        int tape = below(tapes);
        int drive = below(drives);
        return kind < 14 ? ofTapes(kind, tape) : kind < 58 ? ofDrives(kind, drive, tape)
                : kind < 97 ? ofJobs(kind, drive, tape) : ofLabels(kind, tape);
    }

    private IntSupplier[] ofTapes(int kind, int tape) {
        int slot = below(12);
        int file = fileOf(tape);
        int place = below(small ? 26 : 1700);
        if (kind < 2) {
            return setUp();
        } else if (kind < 6) {
            return pair("carry(" + tape + ", " + slot + ")", () -> program.carry(tape, slot), () -> model.carry(tape, slot));
        } else if (kind < 8) {
            return pair("placeOf(" + tape + ")", () -> program.placeOf(tape), () -> model.placeOf(tape));
        } else if (kind < 9) {
            return pair("files(" + tape + ")", () -> program.files(tape), () -> model.files(tape));
        } else if (kind < 11) {
            return pair("start(" + tape + ", " + file + ")", () -> program.start(tape, file), () -> model.start(tape, file));
        }
        return pair("along(" + tape + ", " + place + ")", () -> program.along(tape, place), () -> model.along(tape, place));
    }

    private IntSupplier[] ofDrives(int kind, int drive, int tape) {
        int blocks = 1 + below(small ? 6 : 100);
        int file = fileIn(drive);
        if (kind < 28) {
            return pair("mount(" + drive + ", " + tape + ")", () -> program.mount(drive, tape), () -> model.mount(drive, tape));
        } else if (kind < 32) {
            return pair("unmount(" + drive + ")", () -> program.unmount(drive), () -> model.unmount(drive));
        } else if (kind < 42) {
            return pair("write(" + drive + ", " + blocks + ")", () -> program.write(drive, blocks), () -> model.write(drive, blocks));
        } else if (kind < 46) {
            return pair("read(" + drive + ", " + file + ")", () -> program.read(drive, file), () -> model.read(drive, file));
        } else if (kind < 54) {
            return pair("clean(" + drive + ")", () -> program.clean(drive), () -> model.clean(drive));
        } else if (kind < 56) {
            return pair("clock(" + drive + ")", () -> program.clock(drive), () -> model.clock(drive));
        }
        return pair("stands(" + drive + ")", () -> program.stands(drive), () -> model.stands(drive));
    }

    private IntSupplier[] ofJobs(int kind, int drive, int tape) {
        int file = fileOf(tape);
        int deadline = random.nextInt(20) == 0 ? 99998 + random.nextInt(4) : 100 * below(80);
        int place = below(random.nextInt(4) == 0 ? 8 : 3);
        if (kind < 75) {
            return pair("job(" + tape + ", " + file + ", " + deadline + ")",
                    () -> program.job(tape, file, deadline), () -> model.job(tape, file, deadline));
        } else if (kind < 77) {
            return pair("waiting(" + tape + ")", () -> program.waiting(tape), () -> model.waiting(tape));
        } else if (kind < 81) {
            return pair("next()", program::next, model::next);
        } else if (kind < 83) {
            return pair("bestTime(" + drive + ")", () -> program.bestTime(drive), () -> model.bestTime(drive));
        } else if (kind < 88) {
            return pair("bestJob(" + drive + ", " + place + ")", () -> program.bestJob(drive, place), () -> model.bestJob(drive, place));
        } else if (kind < 91) {
            return pair("insertedTime(" + drive + ")", () -> program.insertedTime(drive), () -> model.insertedTime(drive));
        } else if (kind < 93) {
            return pair("triedTime(" + drive + ")", () -> program.triedTime(drive), () -> model.triedTime(drive));
        } else if (kind < 95) {
            return pair("work(" + drive + ")", () -> program.work(drive), () -> model.work(drive));
        }
        return pair("done()", program::done, model::done);
    }

    private IntSupplier[] ofLabels(int kind, int tape) {
        if (kind < 98) {
            return pair("lose(" + tape + ")", () -> program.lose(tape), () -> model.lose(tape));
        }
        return pair("inventory()", program::inventory, model::inventory);
    }
}
