import java.util.ArrayList;
import java.util.List;

/**
 * The document a second time, in the plainest form: tapes are wound place by place into lists, and every
 * order is built as a list. Slow, and without a line in common with TapeRobotics.
 */
final class Model {
    static final class Tape {
        final List<int[]> spots = new ArrayList<>();
        final int places;
        final List<Integer> blocks = new ArrayList<>();
        int slot;
        int drive = -1;
        boolean label = true;

        Tape(int tracks, int length) {
            for (int track = 0; track < tracks; track++) {
                for (int i = 0; i < length; i++) {
                    spots.add(new int[] {track, track % 2 == 0 ? i : length - 1 - i});
                }
            }
            places = spots.size();
            spots.add(spots.get(places - 1));
        }

        int start(int file) {
            int sum = 0;
            for (int i = 0; i < file; i++) {
                sum += blocks.get(i);
            }
            return sum;
        }
    }

    static final class Drive {
        int pace;
        int step;
        Tape tape;
        int place = -1;
        int clock;
        int passed;
    }

    static final class Job {
        int number;
        Tape tape;
        int file;
        int deadline;
    }

    final List<Tape> tapes = new ArrayList<>();
    final List<Drive> drives = new ArrayList<>();
    final List<Job> waiting = new ArrayList<>();
    int came;
    int done;

    private static void index(boolean good) {
        if (!good) {
            throw new IndexOutOfBoundsException();
        }
    }

    private static void argument(boolean good) {
        if (!good) {
            throw new IllegalArgumentException();
        }
    }

    private static void state(boolean good) {
        if (!good) {
            throw new IllegalStateException();
        }
    }

    private static boolean in(int number, int low, int high) {
        return low <= number && number <= high;
    }

    private Tape tapeOf(int tape) {
        index(in(tape, 0, tapes.size() - 1));
        return tapes.get(tape);
    }

    private Drive driveOf(int drive) {
        index(in(drive, 0, drives.size() - 1));
        return drives.get(drive);
    }

    private boolean slotFree(int slot) {
        return tapes.stream().noneMatch(t -> t.slot == slot);
    }

    int tape(int tracks, int length) {
        argument(in(tracks, 1, 8) && in(length, 4, 200));
        state(tapes.size() < 8);
        Tape made = new Tape(tracks, length);
        int slot = 0;
        while (!slotFree(slot)) {
            slot++;
        }
        made.slot = slot;
        tapes.add(made);
        return tapes.size() - 1;
    }

    int carry(int tape, int slot) {
        Tape t = tapeOf(tape);
        index(in(slot, 0, 11));
        state(t.drive < 0 && slotFree(slot));
        int old = t.slot;
        t.slot = slot;
        return old;
    }

    int placeOf(int tape) {
        Tape t = tapeOf(tape);
        return t.drive < 0 ? t.slot : -1 - t.drive;
    }

    int files(int tape) {
        return tapeOf(tape).blocks.size();
    }

    int start(int tape, int file) {
        Tape t = tapeOf(tape);
        index(in(file, 0, t.blocks.size() - 1));
        return t.start(file);
    }

    int along(int tape, int place) {
        Tape t = tapeOf(tape);
        index(in(place, 0, t.places - 1));
        return t.spots.get(place)[1];
    }

    int drive(int make) {
        argument(in(make, 0, 1));
        state(drives.size() < 3);
        Drive d = new Drive();
        d.pace = make == 0 ? 1 : 2;
        d.step = make == 0 ? 9 : 1;
        drives.add(d);
        return drives.size() - 1;
    }

    private static int way(Drive d, Tape t, int from, int to) {
        int[] a = t.spots.get(from);
        int[] b = t.spots.get(to);
        return Math.abs(a[1] - b[1]) * d.pace + Math.abs(a[0] - b[0]) * d.step;
    }

    private int robot(Drive d, Tape t) {
        return 20 + 2 * Math.abs(4 * drives.indexOf(d) - t.slot);
    }

    int mount(int drive, int tape) {
        Drive d = driveOf(drive);
        Tape t = tapeOf(tape);
        state(d.tape == null && t.drive < 0 && t.label);
        d.tape = t;
        d.place = 0;
        t.drive = drive;
        int time = robot(d, t);
        d.clock += time;
        return time;
    }

    int unmount(int drive) {
        Drive d = driveOf(drive);
        state(d.tape != null);
        int time = way(d, d.tape, d.place, 0) + robot(d, d.tape);
        d.clock += time;
        d.tape.drive = -1;
        d.tape = null;
        d.place = -1;
        return time;
    }

    private int pass(Drive d, int file) {
        int time = way(d, d.tape, d.place, d.tape.start(file)) + 3 * d.tape.blocks.get(file);
        d.place = d.tape.start(file + 1);
        d.clock += time;
        d.passed++;
        return time;
    }

    int write(int drive, int blocks) {
        Drive d = driveOf(drive);
        argument(in(blocks, 1, 100));
        state(d.tape != null && d.passed < 12);
        int files = d.tape.blocks.size();
        state(files < 10 && d.tape.start(files) + blocks <= d.tape.places);
        d.tape.blocks.add(blocks);
        return pass(d, files);
    }

    int read(int drive, int file) {
        Drive d = driveOf(drive);
        index(d.tape == null || in(file, 0, d.tape.blocks.size() - 1));
        state(d.tape != null && d.passed < 12);
        return pass(d, file);
    }

    int clean(int drive) {
        Drive d = driveOf(drive);
        state(d.tape == null);
        int passed = d.passed;
        d.passed = 0;
        d.clock += 50;
        return passed;
    }

    int clock(int drive) {
        return driveOf(drive).clock;
    }

    int stands(int drive) {
        return driveOf(drive).place;
    }

    private List<Job> jobsAt(Tape t) {
        List<Job> found = new ArrayList<>();
        for (Job job : waiting) {
            if (job.tape == t) {
                found.add(job);
            }
        }
        return found;
    }

    int job(int tape, int file, int deadline) {
        Tape t = tapeOf(tape);
        index(in(file, 0, t.blocks.size() - 1));
        argument(in(deadline, 0, 99999));
        state(came < 60 && jobsAt(t).size() < 7);
        Job job = new Job();
        job.number = came++;
        job.tape = t;
        job.file = file;
        job.deadline = deadline;
        waiting.add(job);
        return job.number;
    }

    int waiting(int tape) {
        return jobsAt(tapeOf(tape)).size();
    }

    int next() {
        List<Tape> good = new ArrayList<>();
        for (Tape t : tapes) {
            if (t.drive < 0 && t.label && !jobsAt(t).isEmpty()) {
                good.add(t);
            }
        }
        good.sort((a, b) -> {
            int first = Integer.compare(earliest(a), earliest(b));
            int second = Integer.compare(jobsAt(b).size(), jobsAt(a).size());
            return first != 0 ? first : second != 0 ? second : Integer.compare(tapes.indexOf(a), tapes.indexOf(b));
        });
        return good.isEmpty() ? -1 : tapes.indexOf(good.get(0));
    }

    private int earliest(Tape t) {
        return jobsAt(t).stream().mapToInt(job -> job.deadline).min().getAsInt();
    }

    private static int timeOf(Drive d, List<Job> order) {
        int time = 0;
        int at = d.place;
        for (Job job : order) {
            time += way(d, d.tape, at, d.tape.start(job.file)) + 3 * d.tape.blocks.get(job.file);
            at = d.tape.start(job.file + 1);
        }
        return time;
    }

    /** Goes through all orders as a dictionary would, so the first one with the least time is the best. */
    private static List<Job> best(Drive d, List<Job> begun, List<Job> left, List<Job> bestSoFar) {
        if (left.isEmpty()) {
            return bestSoFar == null || timeOf(d, begun) < timeOf(d, bestSoFar) ? new ArrayList<>(begun) : bestSoFar;
        }
        for (int i = 0; i < left.size(); i++) {
            begun.add(left.remove(i));
            bestSoFar = best(d, begun, left, bestSoFar);
            left.add(i, begun.remove(begun.size() - 1));
        }
        return bestSoFar;
    }

    private List<Job> best(Drive d) {
        state(d.tape != null);
        return best(d, new ArrayList<>(), jobsAt(d.tape), null);
    }

    int bestTime(int drive) {
        Drive d = driveOf(drive);
        return timeOf(d, best(d));
    }

    int bestJob(int drive, int place) {
        Drive d = driveOf(drive);
        List<Job> best = best(d);
        index(in(place, 0, best.size() - 1));
        return best.get(place).number;
    }

    int insertedTime(int drive) {
        Drive d = driveOf(drive);
        state(d.tape != null);
        List<Job> order = new ArrayList<>();
        for (Job job : jobsAt(d.tape)) {
            List<Job> chosen = null;
            for (int place = 0; place <= order.size(); place++) {
                List<Job> longer = new ArrayList<>(order);
                longer.add(place, job);
                if (chosen == null || timeOf(d, longer) < timeOf(d, chosen)) {
                    chosen = longer;
                }
            }
            order = chosen;
        }
        return timeOf(d, order);
    }

    int triedTime(int drive) {
        return bestTime(drive);
    }

    int work(int drive) {
        Drive d = driveOf(drive);
        state(d.tape != null && d.passed < 12);
        int late = 0;
        for (Job job : best(d)) {
            if (d.passed < 12) {
                pass(d, job.file);
                waiting.remove(job);
                done++;
                late += d.clock > job.deadline ? 1 : 0;
            }
        }
        return late;
    }

    int done() {
        return done;
    }

    private int unlabelled() {
        return (int) tapes.stream().filter(t -> !t.label).count();
    }

    int lose(int tape) {
        Tape t = tapeOf(tape);
        state(t.drive < 0 && t.label);
        t.label = false;
        return unlabelled();
    }

    int inventory() {
        List<Tape> inSlots = new ArrayList<>(tapes);
        inSlots.removeIf(t -> t.drive >= 0);
        if (inSlots.isEmpty()) {
            return 0;
        }
        int time = 2 * inSlots.stream().mapToInt(t -> t.slot).max().getAsInt() + 5 * unlabelled();
        inSlots.forEach(t -> t.label = true);
        return time;
    }
}
