/** Promises 16 to 24: each sentence that names a bound, from inside and outside. */
public final class JobEdgesTest {
    private static final int SWIFT = TapeRobotics.SWIFT;
    private static final int STEADY = TapeRobotics.STEADY;

    public static void main(String[] args) {
        deadlineRange();
        lastDeadlineReached();
        jobAnywhere();
        waitingUpToSeven();
        nextWithoutAny();
        nextByDeadline();
        nextByJobsThatWait();
        nextAmongEquals();
        timeIfNoneWaits();
        timeFromWhereItStands();
        bestOrderAmongEquals();
        bestOrdersOfSeven();
        eachOrderOnceTheBest();
        fewerJobsBehindMore();
        placesOfTheBestOrder();
        insertionAtTheEarliest();
        insertionIsNotAlwaysBest();
        workIfNoneWaits();
        workByTheClockBehindEach();
        workUntilTheTwelfthFile();
        workLeavesTheOthersWaiting();
        doneInAll();
        Check.end();
    }

    private static void dueOrder(TapeRobotics x, int... order) {
        for (int place = 0; place < order.length; place++) {
            Check.due("bestJob(0, " + place + ")", x.bestJob(0, place), order[place]);
        }
        Check.noIndex("bestJob(0, " + order.length + ")", () -> x.bestJob(0, order.length));
        Check.noIndex("bestJob(0, -1)", () -> x.bestJob(0, -1));
    }

    /** Asked twice, each behind each other: no question may leave something behind that changes an answer. */
    private static void dueTimes(TapeRobotics x, int best, int inserted) {
        Check.due("bestTime(0)", x.bestTime(0), best);
        Check.due("triedTime(0)", x.triedTime(0), best);
        Check.due("insertedTime(0)", x.insertedTime(0), inserted);
        Check.due("triedTime(0) again", x.triedTime(0), best);
        Check.due("bestTime(0) again", x.bestTime(0), best);
        Check.due("insertedTime(0) again", x.insertedTime(0), inserted);
    }

    // Promise 16
    private static void deadlineRange() {
        Check.sentence("16, deadline: 0 to 99999");
        TapeRobotics x = Libraries.written(SWIFT, 1, 10, 1);
        Check.noArgument("job(0, 0, -1)", () -> x.job(0, 0, -1));
        Check.noArgument("job(0, 0, 100000)", () -> x.job(0, 0, 100000));
        Check.due("job(0, 0, 0)", x.job(0, 0, 0), 0);
        Check.due("job(0, 0, 99999)", x.job(0, 0, 99999), 1);
        Check.due("job(0, 0, 1)", x.job(0, 0, 1), 2);
        Check.due("job(0, 0, 99998)", x.job(0, 0, 99998), 3);
        Check.due("work(0), the deadlines 0 and 1 missed", x.work(0), 2);
    }

    /** A drive whose clock will be 99999 when it has mounted the tape 0 and read the file 0. */
    private static TapeRobotics shortBefore99999() {
        TapeRobotics x = Libraries.written(STEADY, 1, 200, 100);
        x.tape(1, 4);
        for (int time = 0; time < 16; time++) {
            if (time > 0) {
                x.mount(0, 0);
                x.read(0, 0);
            }
            for (int file = 1; file < 12; file++) {
                x.read(0, 0);
            }
            x.unmount(0);
            x.clean(0);
        }
        Check.due("clock(0), 16 times 20 + 300 + 11 * 500 + 220 + 50", x.clock(0), 97440);
        x.mount(0, 1);
        x.write(0, 1);
        x.unmount(0);
        for (int time = 0; time < 10; time++) {
            x.mount(0, 1);
            x.unmount(0);
        }
        for (int time = 0; time < 35; time++) {
            x.clean(0);
        }
        Check.due("clock(0)", x.clock(0), 99999 - 320);
        return x;
    }

    private static void lastDeadlineReached() {
        Check.sentence("16 and 23, the deadline 99999 as any other, up to the clock 99999");
        TapeRobotics x = shortBefore99999();
        x.job(0, 0, 99999);
        x.mount(0, 0);
        Check.due("work(0) up to 99999", x.work(0), 0);
        Check.due("clock(0)", x.clock(0), 99999);
        x.job(0, 0, 99999);
        Check.due("work(0) behind 99999", x.work(0), 1);
        Check.due("clock(0)", x.clock(0), 100499);
        TapeRobotics y = shortBefore99999();
        y.job(0, 0, 99998);
        y.mount(0, 0);
        Check.due("work(0) up to 99999 by 99998", y.work(0), 1);
    }

    private static void jobAnywhere() {
        Check.sentence("16, puts in a job, wherever its tape is");
        TapeRobotics x = Libraries.shelf(3);
        x.lose(1);
        x.mount(0, 2);
        Check.due("job(0, 0, 9) in a slot", x.job(0, 0, 9), 0);
        Check.due("job(1, 0, 9) without a label", x.job(1, 0, 9), 1);
        Check.due("job(2, 0, 9) in a drive", x.job(2, 0, 9), 2);
        TapeRobotics y = Libraries.unclean();
        Check.due("job(1, 1, 9) in a drive that wants cleaning", y.job(1, 1, 9), 6);
        Check.due("waiting(1)", y.waiting(1), 3);
        TapeRobotics z = Libraries.tenFiles();
        Check.due("job(1, 9, 9) for the last of ten files", z.job(1, 9, 9), 6);
        Check.noIndex("job(1, 10, 9)", () -> z.job(1, 10, 9));
    }

    // Promise 17
    private static void waitingUpToSeven() {
        Check.sentence("17, returns how many jobs wait at a tape");
        TapeRobotics x = Libraries.shelf(8);
        for (int tape = 0; tape < 8; tape++) {
            Check.due("waiting(" + tape + "), none yet", x.waiting(tape), 0);
            for (int job = 0; job < tape; job++) {
                x.job(tape, 0, 10);
            }
        }
        for (int tape = 0; tape < 8; tape++) {
            Check.due("waiting(" + tape + ")", x.waiting(tape), tape);
        }
        x.mount(0, 7);
        Check.due("waiting(7) in a drive", x.waiting(7), 7);
        x.work(0);
        Check.due("waiting(7), all done", x.waiting(7), 0);
        Check.due("waiting(6)", x.waiting(6), 6);
    }

    // Promise 18
    private static void nextWithoutAny() {
        Check.sentence("18, NONE if there is none");
        Check.due("next() without tapes", new TapeRobotics().next(), TapeRobotics.NONE);
        TapeRobotics x = Libraries.shelf(2);
        Check.due("next() without jobs", x.next(), TapeRobotics.NONE);
        x.job(1, 0, 99999);
        Check.due("next() with one job, by the last deadline", x.next(), 1);
        x.lose(1);
        Check.due("next(), its tape without a label", x.next(), TapeRobotics.NONE);
        x.inventory();
        Check.due("next(), the label found", x.next(), 1);
        x.mount(0, 1);
        Check.due("next(), its tape in a drive", x.next(), TapeRobotics.NONE);
        x.unmount(0);
        Check.due("next(), its tape unmounted", x.next(), 1);
        x.mount(0, 1);
        x.work(0);
        x.unmount(0);
        Check.due("next(), its job done", x.next(), TapeRobotics.NONE);
    }

    private static void nextByDeadline() {
        Check.sentence("18, the one with the earliest deadline of a job that waits");
        TapeRobotics first = Libraries.shelf(2);
        first.job(1, 0, 5);
        first.job(0, 0, 6);
        first.job(0, 0, 7);
        Check.due("next() by the 0th job", first.next(), 1);
        TapeRobotics x = Libraries.shelf(8);
        x.job(3, 0, 99999);
        x.job(6, 0, 99998);
        Check.due("next() by 99998 before 99999", x.next(), 6);
        x.job(3, 0, 1);
        Check.due("next() by 1", x.next(), 3);
        x.job(7, 0, 0);
        Check.due("next() by 0 before 1, though fewer wait", x.next(), 7);
        x.mount(0, 7);
        x.work(0);
        x.unmount(0);
        Check.due("next(), the job by 0 being done", x.next(), 3);
        x.job(7, 0, 2);
        Check.due("next() by 1 before 2", x.next(), 3);
        x.mount(0, 3);
        Check.due("next(), the tape 3 in a drive", x.next(), 7);
    }

    private static void nextByJobsThatWait() {
        Check.sentence("18, of several the one with more jobs");
        TapeRobotics x = Libraries.shelf(3);
        Libraries.jobs(x, 2, 0, 0, 0, 0, 0, 0);
        Libraries.jobs(x, 0, 0, 0, 0, 0, 0);
        Check.due("next(), 6 before 5", x.next(), 2);
        Libraries.jobs(x, 0, 0, 0);
        Check.due("next(), 7 before 6", x.next(), 0);
        x.mount(0, 0);
        x.work(0);
        x.unmount(0);
        Libraries.jobs(x, 0, 0);
        Check.due("next(), jobs that were done not counting", x.next(), 2);
        Libraries.jobs(x, 1, 0, 0, 0, 0, 0, 0, 0);
        Check.due("next(), 7 before 6 and 1", x.next(), 1);
        x.job(2, 0, 99998);
        Check.due("next(), the deadline before the number of jobs", x.next(), 2);
    }

    private static void nextAmongEquals() {
        Check.sentence("18, then the one with the lower number");
        TapeRobotics x = Libraries.shelf(8);
        x.carry(7, 11);
        x.carry(0, 7);
        for (int tape = 7; tape >= 0; tape--) {
            x.job(tape, 0, 40);
            Check.due("next(), from " + tape + " on all equal", x.next(), tape);
        }
        for (int tape = 0; tape < 7; tape++) {
            x.lose(tape);
            Check.due("next(), those up to " + tape + " without labels", x.next(), tape + 1);
        }
    }

    // Promises 19, 21 and 22
    private static void timeIfNoneWaits() {
        Check.sentence("19, 21 and 22, 0 if none waits");
        TapeRobotics bare = Libraries.bare(1, 1);
        bare.mount(0, 0);
        dueTimes(bare, 0, 0);
        TapeRobotics full = Libraries.written(SWIFT, 1, 10, 10);
        dueTimes(full, 0, 0);
        Libraries.jobs(full, 0, 0);
        dueTimes(full, 9 + 30, 9 + 30);
        full.work(0);
        dueTimes(full, 0, 0);
        TapeRobotics unclean = Libraries.unclean();
        dueTimes(unclean, 3 + 9, 3 + 9);
        TapeRobotics others = Libraries.shelf(2);
        Libraries.jobs(others, 0, 0);
        others.mount(0, 1);
        dueTimes(others, 0, 0);
    }

    private static void timeFromWhereItStands() {
        Check.sentence("Terms, an order's time is the time from where it stands; it ends behind the last block");
        TapeRobotics x = Libraries.written(STEADY, 2, 20, 5, 5, 5);
        Libraries.jobs(x, 0, 1);
        dueTimes(x, 20 + 15, 20 + 15);
        x.read(0, 0);
        dueTimes(x, 15, 15);
        x.read(0, 1);
        dueTimes(x, 10 + 15, 10 + 15);
        x.unmount(0);
        x.mount(0, 0);
        dueTimes(x, 10 + 15, 10 + 15);
        Libraries.jobs(x, 0, 1);
        dueTimes(x, 20 + 30, 20 + 30);
        x.work(0);
        Check.due("stands(0) behind the last block", x.stands(0), 10);
        Check.due("clock(0), nothing behind the last block", x.clock(0), 20 + 45 + (30 + 15) + (15) + (20 + 20) + 20 + 50);
    }

    // Promise 20
    private static void bestOrderAmongEquals() {
        Check.sentence("Terms, of several the one that has the lower job at the first place where they differ");
        TapeRobotics x = Libraries.written(STEADY, 2, 20, 5, 5);
        Libraries.jobs(x, 0, 1, 1, 1, 1, 1, 1, 1);
        dueTimes(x, 10 + 6 * 10 + 7 * 15, 10 + 6 * 10 + 7 * 15);
        dueOrder(x, 0, 1, 2, 3, 4, 5, 6);
        x.work(0);
        Libraries.jobs(x, 0, 1, 1, 1);
        dueOrder(x, 7, 8, 9);
        // From behind both files: 1 0 0 1 and 0 1 0 1 and 0 0 1 1 have 8 of way each, all others have more.
        TapeRobotics y = Libraries.written(SWIFT, 1, 20, 2, 2);
        Libraries.jobs(y, 0, 1, 0, 1, 0);
        dueTimes(y, 8 + 24, 8 + 24);
        dueOrder(y, 0, 1, 3, 2);
    }

    /** A table of seven jobs each; the answers come from a search apart from this program. */
    private static void bestOrdersOfSeven() {
        Check.sentence("19 to 22, the best order of seven jobs, several being as good");
        int[][] forms = {{STEADY, 4, 6}, {SWIFT, 4, 8}, {SWIFT, 4, 4}, {STEADY, 2, 8}, {STEADY, 4, 4}, {SWIFT, 4, 7}};
        int[][] blocks = {{2, 2, 1, 3, 5}, {3, 5, 5, 5}, {5, 3, 1, 4, 1}, {1, 4, 5, 4}, {4, 4, 2, 5}, {1, 4, 1, 5, 1}};
        int[][] files = {{3, 4, 0, 2, 4, 4, 0}, {0, 2, 0, 2, 3, 1, 3}, {1, 1, 3, 2, 2, 0, 2}, {3, 2, 1, 0, 3, 1, 0},
            {3, 1, 2, 3, 2, 0, 0}, {2, 1, 3, 1, 2, 4, 4}};
        int[][] orders = {{1, 2, 3, 0, 4, 6, 5}, {0, 2, 5, 1, 3, 4, 6}, {0, 3, 4, 5, 1, 6, 2}, {2, 0, 3, 6, 5, 1, 4},
            {2, 0, 4, 3, 5, 1, 6}, {1, 0, 3, 4, 2, 5, 6}};
        int[][] times = {{89, 89}, {130, 140}, {93, 93}, {76, 76}, {85, 91}, {66, 66}};
        for (int row = 0; row < forms.length; row++) {
            TapeRobotics x = Libraries.written(forms[row][0], forms[row][1], forms[row][2], blocks[row]);
            Libraries.jobs(x, 0, files[row]);
            dueTimes(x, times[row][0], times[row][1]);
            dueOrder(x, orders[row]);
        }
    }

    private static void eachOrderOnceTheBest() {
        Check.sentence("22, the same as bestTime(), by trying all orders");
        for (int jobs = 1; jobs <= 6; jobs++) {
            eachOrderOnceTheBest(new int[jobs], 0, 0);
        }
        onlyBestOrder(0, 1, 2, 3, 4, 5, 6);
        onlyBestOrder(0, 1, 2, 3, 4, 6, 5);
        onlyBestOrder(3, 2, 1, 0, 6, 5, 4);
        onlyBestOrder(3, 4, 5, 6, 2, 1, 0);
        onlyBestOrder(6, 5, 4, 3, 2, 0, 1);
        onlyBestOrder(6, 5, 4, 3, 2, 1, 0);
    }

    /** Fills the order from a place on in all ways; used tells the jobs that it has, a bit for each. */
    private static void eachOrderOnceTheBest(int[] order, int place, int used) {
        if (place == order.length) {
            onlyBestOrder(order);
        }
        for (int job = 0; place < order.length && job < order.length; job++) {
            if ((used >> job & 1) == 0) {
                order[place] = job;
                eachOrderOnceTheBest(order, place + 1, used | 1 << job);
            }
        }
    }

    /** From the place 0 of one track, files one behind the other are read best as they lie. */
    private static void onlyBestOrder(int... order) {
        TapeRobotics x = Libraries.written(SWIFT, 1, 10, 1, 1, 1, 1, 1, 1, 1);
        x.unmount(0);
        x.mount(0, 0);
        int[] files = new int[order.length];
        for (int file = 0; file < order.length; file++) {
            files[order[file]] = file;
        }
        Libraries.jobs(x, 0, files);
        Check.due("triedTime(0)", x.triedTime(0), 3 * order.length);
        Check.due("bestTime(0)", x.bestTime(0), 3 * order.length);
        dueOrder(x, order);
    }

    private static void fewerJobsBehindMore() {
        Check.sentence("19 to 22, of the jobs that wait at the mounted tape, whatever was asked of another one");
        int[][] files = {{3, 4, 0, 2, 4, 4, 0}, {2, 1, 3, 1, 2, 4, 4}, {4, 3, 2, 1, 0, 4, 3}, {0, 4, 1, 3, 2, 0, 4}};
        for (int[] row : files) {
            for (int jobs = 0; jobs <= 7; jobs++) {
                TapeRobotics asked = twoTapes(row, jobs);
                asked.bestTime(0);
                asked.insertedTime(0);
                asked.triedTime(0);
                TapeRobotics fresh = twoTapes(row, jobs);
                for (TapeRobotics x : new TapeRobotics[] {asked, fresh}) {
                    x.unmount(0);
                    x.clean(0);
                    x.mount(0, 1);
                    x.read(0, 3);
                }
                dueTimes(asked, fresh.bestTime(0), fresh.insertedTime(0));
                Check.same("behind " + jobs, Probe.of(asked), Probe.of(fresh));
            }
        }
    }

    /** Two tapes of five files; all jobs of the row wait at the tape 0, which is mounted, some of them at the other one. */
    private static TapeRobotics twoTapes(int[] row, int jobs) {
        TapeRobotics x = Libraries.bare(2, 1);
        for (int tape = 1; tape >= 0; tape--) {
            x.mount(0, tape);
            for (int blocks : new int[] {1, 4, 2, 5, 3}) {
                x.write(0, blocks);
            }
            for (int job = 0; job < (tape == 0 ? 7 : jobs); job++) {
                x.job(tape, row[job], 90 * job);
            }
            if (tape == 1) {
                x.unmount(0);
            }
        }
        return x;
    }

    private static void placesOfTheBestOrder() {
        Check.sentence("20, place: 0 for the first one");
        TapeRobotics x = Libraries.written(SWIFT, 1, 20, 1, 1, 1, 1, 1, 1, 1);
        for (int jobs = 1; jobs <= 7; jobs++) {
            int last = jobs;
            Libraries.jobs(x, 0, jobs - 1);
            Check.due("bestJob(0, 0) of " + jobs, x.bestJob(0, 0), 0);
            Check.due("bestJob(0, the last) of " + jobs, x.bestJob(0, jobs - 1), jobs - 1);
            Check.noIndex("bestJob(0, behind the last) of " + jobs, () -> x.bestJob(0, last));
            Check.noIndex("bestJob(0, -1) of " + jobs, () -> x.bestJob(0, -1));
        }
        x.read(0, 0);
        x.read(0, 0);
        x.read(0, 0);
        x.work(0);
        dueOrder(x, 2, 3, 4, 5, 6);
    }

    // Promise 21
    private static void insertionAtTheEarliest() {
        Check.sentence("Terms, where the time of the order becomes least; of several at the earliest one");
        TapeRobotics x = Libraries.written(SWIFT, 3, 8, 2, 1, 1, 2);
        // The drive stands at 6. The file 0 alone: 6 of way.
        Libraries.jobs(x, 0, 0);
        dueTimes(x, 6 + 6, 12);
        // The file 3, from 4 to 6, costs 2 + 6 of way ahead of the file 0, and 6 + 2 behind it: so ahead.
        Libraries.jobs(x, 0, 3);
        dueTimes(x, 20, 20);
        // The file 1, from 2 to 3: 4 + 1 + 6 of way as the first one, 2 + 4 + 3 in the middle, 2 + 6 + 0 as the last.
        Libraries.jobs(x, 0, 1);
        dueTimes(x, 7 + 15, 8 + 15);
    }

    private static void insertionIsNotAlwaysBest() {
        Check.sentence("Terms, the jobs are put in one by one, by rising numbers");
        int[][] files = {{1, 4, 2, 3}, {3, 2, 4, 1}, {1, 3, 2, 4}};
        int[] inserted = {45, 42, 44};
        for (int row = 0; row < files.length; row++) {
            TapeRobotics x = Libraries.written(STEADY, 3, 5, 1, 2, 2, 4, 4);
            Libraries.jobs(x, 0, files[row]);
            dueTimes(x, 42, inserted[row]);
        }
    }

    // Promise 23
    private static void workIfNoneWaits() {
        Check.sentence("23, until none waits");
        TapeRobotics x = Libraries.bare(1, 1);
        x.mount(0, 0);
        Check.due("work(0) without files and jobs", x.work(0), 0);
        Check.due("clock(0)", x.clock(0), 20);
        Check.due("stands(0)", x.stands(0), 0);
        x.unmount(0);
        Check.due("clean(0)", x.clean(0), 0);
        Check.due("done()", x.done(), 0);
    }

    private static void workByTheClockBehindEach() {
        Check.sentence("23, read behind their deadlines, by the drive's clock behind each");
        // Behind 20 + 12 of the clock the file 0 ends 4 + 6 later, the file 1 6 later, and again 2 + 6 later.
        for (int early = -1; early <= 1; early++) {
            for (int job = 0; job < 3; job++) {
                TapeRobotics x = Libraries.written(SWIFT, 1, 20, 2, 2);
                for (int each = 0; each < 3; each++) {
                    x.job(0, Math.min(each, 1), each == job ? new int[] {42, 48, 56}[job] - early : 99999);
                }
                Check.due("work(0), the job " + job + " late by " + early, x.work(0), early > 0 ? 1 : 0);
                Check.due("clock(0)", x.clock(0), 56);
            }
        }
        TapeRobotics x = Libraries.written(SWIFT, 1, 20, 2, 2);
        for (int job = 0; job < 7; job++) {
            x.job(0, 0, 0);
        }
        Check.due("work(0), all late by 0", x.work(0), 7);
    }

    private static void workUntilTheTwelfthFile() {
        Check.sentence("23, until none waits or the drive wants cleaning");
        for (int allowed = 0; allowed <= 8; allowed++) {
            TapeRobotics x = Libraries.written(SWIFT, 1, 20, 2);
            for (int passed = 1; passed < 12 - allowed; passed++) {
                x.read(0, 0);
            }
            for (int job = 0; job < 7; job++) {
                x.job(0, 0, 0);
            }
            int done = Math.min(allowed, 7);
            int clock = x.clock(0);
            if (allowed == 0) {
                Check.noState("work(0), none being allowed", () -> x.work(0));
            } else {
                Check.due("work(0), " + allowed + " being allowed", x.work(0), done);
            }
            Check.due("clock(0)", x.clock(0), clock + 8 * done);
            Check.due("waiting(0)", x.waiting(0), 7 - done);
            Check.due("done()", x.done(), done);
            if (allowed == 8) {
                Check.due("read(0, 0), the 12th file", x.read(0, 0), 8);
            }
            Check.noState("read(0, 0), the 13th file", () -> x.read(0, 0));
            x.unmount(0);
            Check.due("clean(0)", x.clean(0), 12);
        }
    }

    private static void workLeavesTheOthersWaiting() {
        Check.sentence("23, those that are left wait on");
        TapeRobotics x = Libraries.written(SWIFT, 1, 20, 1, 1, 1, 1);
        for (int passed = 4; passed < 10; passed++) {
            x.read(0, 3);
        }
        int[] deadlines = {7, 50, 3, 60};
        for (int job = 0; job < 4; job++) {
            x.job(0, 3 - job, deadlines[job]);
        }
        x.work(0);
        Check.due("bestJob(0, 0), the file 2", x.bestJob(0, 0), 1);
        Check.due("bestJob(0, 1), the file 3", x.bestJob(0, 1), 0);
        Check.noIndex("bestJob(0, 2)", () -> x.bestJob(0, 2));
        dueTimes(x, 6, 6);
        x.unmount(0);
        Check.due("next(), the tape having jobs that wait", x.next(), 0);
        x.clean(0);
        x.mount(0, 0);
        Check.due("work(0), both late", x.work(0), 2);
        Check.due("waiting(0)", x.waiting(0), 0);
        Check.due("done()", x.done(), 4);
    }

    // Promise 24
    private static void doneInAll() {
        Check.sentence("24, returns how many jobs were done in all");
        TapeRobotics x = Libraries.sixtyJobs();
        Check.due("done()", x.done(), 7);
        int done = 7;
        for (int tape = 0; tape < 8; tape++) {
            x.mount(0, tape);
            x.work(0);
            done += tape == 0 ? 4 : 7;
            Check.due("done()", x.done(), done);
            x.work(0);
            Check.due("done(), none having waited", x.done(), done);
            x.unmount(0);
            x.clean(0);
        }
        Check.due("done(), all that came", x.done(), 60);
        Check.noState("a job behind the 60th", () -> x.job(0, 0, 0));
        Check.due("next()", x.next(), TapeRobotics.NONE);
    }
}
