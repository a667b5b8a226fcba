/** Promises 16 to 24: jobs. */
public final class JobsTest {
    private static final int[] NO_DRIVES = {-1, 1, 3, Integer.MIN_VALUE, Integer.MAX_VALUE};

    public static void main(String[] args) {
        job();
        jobRefuses();
        jobLimits();
        waiting();
        next();
        nextAmongEquals();
        bestOrder();
        bestOrderAmongEquals();
        bestOrderFromWhereTheDriveStands();
        bestOrderOfSeven();
        orderByInsertion();
        ordersRefuse();
        work();
        workStopsForCleaning();
        workRefuses();
        done();
        Check.end();
    }

    /** A drive with one tape of one track of 20 places on which files of these blocks were written. */
    private static TapeRobotics written(int make, int... blocks) {
        TapeRobotics x = new TapeRobotics();
        x.drive(make);
        x.tape(1, 20);
        x.mount(0, 0);
        for (int each : blocks) {
            x.write(0, each);
        }
        return x;
    }

    private static void jobs(TapeRobotics x, int... files) {
        for (int file : files) {
            x.job(0, file, 99999);
        }
    }

    private static void dueOrder(String what, TapeRobotics x, int... order) {
        for (int place = 0; place < order.length; place++) {
            Check.due(what + ": bestJob(0, " + place + ")", x.bestJob(0, place), order[place]);
        }
        Check.noIndex(what + ": bestJob behind the last", () -> x.bestJob(0, order.length));
    }

    // Promise 16
    private static void job() {
        TapeRobotics x = written(TapeRobotics.SWIFT, 2, 2);
        Check.due("16: job(0, 1, 0)", x.job(0, 1, 0), 0);
        Check.due("16: job(0, 0, 99999)", x.job(0, 0, 99999), 1);
        x.unmount(0);
        x.lose(0);
        Check.due("16: job(0, 0, 5) without a label", x.job(0, 0, 5), 2);
        Check.due("16: waiting(0)", x.waiting(0), 3);
    }

    private static void jobRefuses() {
        TapeRobotics x = written(TapeRobotics.SWIFT, 2, 2);
        x.tape(1, 4);
        int[] noTapes = {-1, 2, 8, Integer.MIN_VALUE, Integer.MAX_VALUE};
        for (int tape : noTapes) {
            Check.noIndex("16: job(" + tape + ", 0, 0)", () -> x.job(tape, 0, 0));
            Check.noIndex("16: job(" + tape + ", 0, -1)", () -> x.job(tape, 0, -1));
        }
        int[] noFiles = {-1, 2, 10, Integer.MIN_VALUE, Integer.MAX_VALUE};
        for (int file : noFiles) {
            Check.noIndex("16: job(0, " + file + ", 0)", () -> x.job(0, file, 0));
            Check.noIndex("16: job(0, " + file + ", -1)", () -> x.job(0, file, -1));
        }
        Check.noIndex("16: job(1, 0, 0) without files", () -> x.job(1, 0, 0));
        int[] noDeadlines = {-1, 100000, Integer.MIN_VALUE, Integer.MAX_VALUE};
        for (int deadline : noDeadlines) {
            Check.noArgument("16: job(0, 0, " + deadline + ")", () -> x.job(0, 0, deadline));
        }
        Check.due("16: waiting(0)", x.waiting(0), 0);
        Check.due("16: job(0, 0, 0), the first that comes", x.job(0, 0, 0), 0);
    }

    private static void jobLimits() {
        TapeRobotics x = new TapeRobotics();
        x.drive(TapeRobotics.SWIFT);
        for (int tape = 0; tape < 8; tape++) {
            x.tape(1, 4);
            x.mount(0, tape);
            x.write(0, 1);
            x.unmount(0);
            for (int job = 0; job < 7; job++) {
                Check.due("16: job", x.job(tape, 0, 1000), 7 * tape + job);
            }
            int full = tape;
            Check.noState("16: an eighth job at a tape", () -> x.job(full, 0, 1000));
            Check.noArgument("16: an eighth job without a deadline", () -> x.job(full, 0, 100000));
        }
        x.mount(0, 0);
        x.work(0);
        Check.due("16: waiting(0), four files having been allowed", x.waiting(0), 3);
        for (int job = 56; job < 60; job++) {
            Check.due("16: job, others being done", x.job(0, 0, 1000), job);
        }
        x.unmount(0);
        x.clean(0);
        x.mount(0, 0);
        x.work(0);
        Check.due("16: waiting(0)", x.waiting(0), 0);
        Check.noState("16: a job behind the 60th", () -> x.job(0, 0, 1000));
        Check.noArgument("16: a job behind the 60th without a deadline", () -> x.job(0, 0, -1));
        Check.noIndex("16: a job behind the 60th without a file", () -> x.job(0, 1, -1));
        Check.due("24: done()", x.done(), 11);
    }

    // Promise 17
    private static void waiting() {
        TapeRobotics x = written(TapeRobotics.SWIFT, 1, 1);
        x.tape(1, 4);
        Check.due("17: waiting(0)", x.waiting(0), 0);
        jobs(x, 0, 1, 1);
        Check.due("17: waiting(0)", x.waiting(0), 3);
        Check.due("17: waiting(1)", x.waiting(1), 0);
        x.read(0, 0);
        Check.due("17: waiting(0), a file being read by the way", x.waiting(0), 3);
        x.work(0);
        Check.due("17: waiting(0), all done", x.waiting(0), 0);
        int[] noTapes = {-1, 2, 8, Integer.MIN_VALUE, Integer.MAX_VALUE};
        for (int tape : noTapes) {
            Check.noIndex("17: waiting(" + tape + ")", () -> x.waiting(tape));
        }
    }

    /** Tapes in slots, each with one file. */
    private static TapeRobotics slots(int tapes) {
        TapeRobotics x = new TapeRobotics();
        x.drive(TapeRobotics.SWIFT);
        for (int tape = 0; tape < tapes; tape++) {
            x.tape(1, 4);
            x.mount(0, tape);
            x.write(0, 1);
            x.unmount(0);
        }
        return x;
    }

    // Promise 18
    private static void next() {
        TapeRobotics x = slots(3);
        Check.due("18: next() without jobs", x.next(), TapeRobotics.NONE);
        x.job(1, 0, 500);
        Check.due("18: next()", x.next(), 1);
        x.job(2, 0, 900);
        x.job(2, 0, 499);
        Check.due("18: next(), by the earliest of several deadlines", x.next(), 2);
        x.job(0, 0, 498);
        Check.due("18: next()", x.next(), 0);
        x.mount(0, 0);
        Check.due("18: next(), a tape being in a drive", x.next(), 2);
        x.lose(2);
        Check.due("18: next(), a tape being without a label", x.next(), 1);
        x.lose(1);
        Check.due("18: next(), none left", x.next(), TapeRobotics.NONE);
        x.inventory();
        x.work(0);
        x.unmount(0);
        Check.due("18: next(), done jobs being forgotten", x.next(), 2);
    }

    private static void nextAmongEquals() {
        TapeRobotics x = slots(4);
        x.job(2, 0, 0);
        x.job(1, 0, 0);
        Check.due("18: next(), the lower number", x.next(), 1);
        x.job(2, 0, 99999);
        Check.due("18: next(), more jobs", x.next(), 2);
        x.job(3, 0, 0);
        x.job(3, 0, 0);
        Check.due("18: next(), the lower number of two with as many", x.next(), 2);
        x.job(1, 0, 7);
        Check.due("18: next(), the lower number of three", x.next(), 1);
        x.job(3, 0, 8);
        Check.due("18: next(), more jobs", x.next(), 3);
        for (int job = 0; job < 5; job++) {
            x.job(0, 0, 1);
        }
        Check.due("18: next(), the deadline before the jobs", x.next(), 3);
        TapeRobotics y = slots(2);
        y.job(1, 0, 99999);
        Check.due("18: next(), the last deadline", y.next(), 1);
    }

    // Promises 19, 20 and 22
    private static void bestOrder() {
        TapeRobotics x = written(TapeRobotics.SWIFT, 2, 2, 2);
        Check.due("19: bestTime(0) without jobs", x.bestTime(0), 0);
        Check.due("22: triedTime(0) without jobs", x.triedTime(0), 0);
        dueOrder("20", x);
        jobs(x, 2, 0, 1);
        Check.due("19: bestTime(0), back to 0 and on", x.bestTime(0), 6 + 18);
        Check.due("22: triedTime(0)", x.triedTime(0), 24);
        dueOrder("20", x, 1, 2, 0);
        x.read(0, 0);
        Check.due("19: bestTime(0) from 2: back, then on", x.bestTime(0), 2 + 18);
        dueOrder("20", x, 1, 2, 0);
        Check.due("19: clock(0), nothing having been read", x.clock(0), 20 + 18 + 12);
        TapeRobotics y = written(TapeRobotics.STEADY, 2, 2, 2);
        jobs(y, 2, 0, 1);
        Check.due("19: bestTime(0)", y.bestTime(0), 12 + 18);
        Check.due("22: triedTime(0)", y.triedTime(0), 30);
    }

    private static void bestOrderAmongEquals() {
        TapeRobotics x = written(TapeRobotics.STEADY, 3, 1, 1);
        jobs(x, 2, 0);
        Check.due("19: bestTime(0), 2 then 0 as 0 then 2", x.bestTime(0), 24);
        dueOrder("20: the lower job first", x, 0, 1);
        TapeRobotics y = written(TapeRobotics.STEADY, 3, 1, 1);
        jobs(y, 0, 2);
        Check.due("19: bestTime(0), 2 then 0 as 0 then 2", y.bestTime(0), 24);
        dueOrder("20: the lower job first", y, 0, 1);
        TapeRobotics z = written(TapeRobotics.SWIFT, 2, 2);
        jobs(z, 1, 0, 0, 1, 0);
        Check.due("19: bestTime(0), 0 three times, 1 twice", z.bestTime(0), 4 + 6 + 2 + 6 + 2 + 6 + 6 + 2 + 6);
        Check.due("22: triedTime(0)", z.triedTime(0), 40);
        // One job of the file 1 first costs 2 + 4 + 2 + 2 of way, all of the file 0 first 4 + 2 + 2 + 2.
        dueOrder("20: the lower job where orders differ", z, 0, 1, 2, 4, 3);
    }

    private static void bestOrderFromWhereTheDriveStands() {
        TapeRobotics x = new TapeRobotics();
        x.drive(TapeRobotics.SWIFT);
        x.drive(TapeRobotics.STEADY);
        x.tape(2, 10);
        x.mount(0, 0);
        x.write(0, 5);
        x.write(0, 10);
        x.write(0, 5);
        jobs(x, 0, 1, 2);
        Check.due("19: bestTime(0), from behind the full tape", x.bestTime(0), 9 + 60);
        Check.due("22: triedTime(0)", x.triedTime(0), 69);
        Check.noState("19: bestTime(1)", () -> x.bestTime(1));
        x.unmount(0);
        x.mount(1, 0);
        Check.due("19: bestTime(1), from the place 0", x.bestTime(1), 60);
        Check.due("22: triedTime(1)", x.triedTime(1), 60);
        Check.due("20: bestJob(1, 2)", x.bestJob(1, 2), 2);
    }

    private static void bestOrderOfSeven() {
        TapeRobotics x = written(TapeRobotics.SWIFT, 1, 2, 3, 1, 2, 3, 1);
        jobs(x, 6, 3, 0, 5, 1, 4, 2);
        Check.due("19: bestTime(0)", x.bestTime(0), 13 + 39);
        Check.due("22: triedTime(0)", x.triedTime(0), 52);
        dueOrder("20", x, 2, 4, 6, 1, 5, 3, 0);
        TapeRobotics y = written(TapeRobotics.SWIFT, 1, 2, 3, 1, 2, 3, 1);
        jobs(y, 6, 5, 4, 3, 2, 1, 0);
        Check.due("19: bestTime(0), only the last of all orders being the best", y.bestTime(0), 52);
        Check.due("22: triedTime(0), only the last of all orders being the best", y.triedTime(0), 52);
        dueOrder("20", y, 6, 5, 4, 3, 2, 1, 0);
    }

    // Promise 21
    private static void orderByInsertion() {
        TapeRobotics x = written(TapeRobotics.STEADY, 3, 1, 1);
        Check.due("21: insertedTime(0) without jobs", x.insertedTime(0), 0);
        jobs(x, 0);
        Check.due("21: insertedTime(0) of one", x.insertedTime(0), 19);
        // The file 2 costs 24 before the file 0 and behind it; before is earlier.
        jobs(x, 2);
        Check.due("21: insertedTime(0) of two", x.insertedTime(0), 24);
        // So the file 1 comes behind both: 2 + 3, 10 + 9, 3. The best order is 0, 1, 2.
        jobs(x, 1);
        Check.due("21: insertedTime(0) of three", x.insertedTime(0), 27);
        Check.due("19: bestTime(0)", x.bestTime(0), 25);
        Check.due("22: triedTime(0)", x.triedTime(0), 25);
        // By rising numbers: the same files in another order of coming.
        TapeRobotics y = written(TapeRobotics.STEADY, 3, 1, 1);
        jobs(y, 0, 1, 2);
        Check.due("21: insertedTime(0) of three that come in order", y.insertedTime(0), 25);
        // Into the middle: 2 and 0 stand already, and 1 costs least between.
        TapeRobotics z = written(TapeRobotics.SWIFT, 2, 2, 2);
        jobs(z, 2, 0, 1);
        Check.due("21: insertedTime(0), into the middle", z.insertedTime(0), 24);
    }

    private static void ordersRefuse() {
        TapeRobotics x = new TapeRobotics();
        x.drive(TapeRobotics.SWIFT);
        x.tape(1, 20);
        for (int drive : NO_DRIVES) {
            Check.noIndex("19: bestTime(" + drive + ")", () -> x.bestTime(drive));
            Check.noIndex("20: bestJob(" + drive + ", 0)", () -> x.bestJob(drive, 0));
            Check.noIndex("21: insertedTime(" + drive + ")", () -> x.insertedTime(drive));
            Check.noIndex("22: triedTime(" + drive + ")", () -> x.triedTime(drive));
        }
        Check.noState("19: bestTime(0) without a tape", () -> x.bestTime(0));
        Check.noState("20: bestJob(0, 0) without a tape", () -> x.bestJob(0, 0));
        Check.noState("20: bestJob(0, -1) without a tape", () -> x.bestJob(0, -1));
        Check.noState("21: insertedTime(0) without a tape", () -> x.insertedTime(0));
        Check.noState("22: triedTime(0) without a tape", () -> x.triedTime(0));
        x.mount(0, 0);
        Check.noIndex("20: bestJob(0, 0) without jobs", () -> x.bestJob(0, 0));
        x.write(0, 1);
        jobs(x, 0, 0);
        int[] noPlaces = {-1, 2, 7, Integer.MIN_VALUE, Integer.MAX_VALUE};
        for (int place : noPlaces) {
            Check.noIndex("20: bestJob(0, " + place + ")", () -> x.bestJob(0, place));
        }
        for (int file = 1; file < 12; file++) {
            x.read(0, 0);
        }
        Check.due("19: bestTime(0), the drive wanting cleaning", x.bestTime(0), 8);
        Check.due("20: bestJob(0, 1), the drive wanting cleaning", x.bestJob(0, 1), 1);
        Check.due("21: insertedTime(0), the drive wanting cleaning", x.insertedTime(0), 8);
        Check.due("22: triedTime(0), the drive wanting cleaning", x.triedTime(0), 8);
    }

    // Promise 23
    private static void work() {
        for (int more = 0; more < 2; more++) {
            TapeRobotics x = written(TapeRobotics.SWIFT, 2, 2, 2);
            x.job(0, 2, 62 - more);
            x.job(0, 0, 50 - more);
            x.job(0, 1, 55);
            Check.due("23: work(0), a deadline missed by 1, two met or missed by 1", x.work(0), 1 + 2 * more);
            Check.due("23: clock(0), 38 and 24", x.clock(0), 62);
            Check.due("23: stands(0)", x.stands(0), 6);
            Check.due("23: waiting(0)", x.waiting(0), 0);
            Check.due("23: work(0) without jobs", x.work(0), 0);
            Check.due("23: clock(0)", x.clock(0), 62);
            x.unmount(0);
            Check.due("23: clean(0), three written and three read", x.clean(0), 6);
        }
    }

    private static void workStopsForCleaning() {
        TapeRobotics x = written(TapeRobotics.SWIFT, 2, 2, 2);
        for (int file = 0; file < 7; file++) {
            x.read(0, 2);
        }
        jobs(x, 2, 0, 1);
        int clock = x.clock(0);
        Check.due("23: work(0), two files being allowed", x.work(0), 0);
        Check.due("23: clock(0), the files 0 and 1 being read", x.clock(0), clock + 6 + 12);
        Check.due("23: stands(0)", x.stands(0), 4);
        Check.due("23: waiting(0)", x.waiting(0), 1);
        Check.due("23: done()", x.done(), 2);
        Check.due("23: bestJob(0, 0), what is left", x.bestJob(0, 0), 0);
        Check.noState("23: work(0), the drive wanting cleaning", () -> x.work(0));
        x.unmount(0);
        Check.due("23: clean(0)", x.clean(0), 12);
        x.mount(0, 0);
        Check.due("23: work(0), clean", x.work(0), 0);
        Check.due("23: waiting(0)", x.waiting(0), 0);
        Check.due("23: done()", x.done(), 3);
    }

    private static void workRefuses() {
        TapeRobotics x = new TapeRobotics();
        x.drive(TapeRobotics.SWIFT);
        x.tape(1, 4);
        for (int drive : NO_DRIVES) {
            Check.noIndex("23: work(" + drive + ")", () -> x.work(drive));
        }
        Check.noState("23: work(0) without a tape", () -> x.work(0));
        x.mount(0, 0);
        x.write(0, 1);
        for (int file = 1; file < 12; file++) {
            x.read(0, 0);
        }
        Check.noState("23: work(0) without jobs, the drive wanting cleaning", () -> x.work(0));
        jobs(x, 0);
        Check.noState("23: work(0), the drive wanting cleaning", () -> x.work(0));
        Check.due("23: waiting(0)", x.waiting(0), 1);
        Check.due("23: done()", x.done(), 0);
    }

    // Promise 24
    private static void done() {
        TapeRobotics x = slots(2);
        Check.due("24: done()", x.done(), 0);
        x.job(0, 0, 0);
        x.job(1, 0, 0);
        x.job(1, 0, 99999);
        Check.due("24: done(), none being done", x.done(), 0);
        x.mount(0, 0);
        x.read(0, 0);
        Check.due("24: done(), a file being read by the way", x.done(), 0);
        Check.due("24: work(0)", x.work(0), 1);
        Check.due("24: done()", x.done(), 1);
        x.unmount(0);
        x.mount(0, 1);
        Check.due("24: work(0)", x.work(0), 1);
        Check.due("24: done(), of all tapes, late or not", x.done(), 3);
    }
}
