/** Promises 29 and 30: BETTER EXCHANGES and the lines they make. */
public final class LinesTest {
    private static final Checks c = new Checks();

    public static void main(String[] args) {
        wrongCalls();
        beams();
        drafts();
        volumeStays();
        limits();
        ties();
        lines();
        c.finish();
    }

    private static void wrongCalls() {
        TankHulls x = new TankHulls();
        c.throwsDue("no hull", Checks.STATE, () -> x.better(0, 9));
        c.throwsDue("no hull", Checks.STATE, () -> x.lines(0, 99));
        x.hull(100, 3);
        c.throwsDue("no law", Checks.INDEX, () -> x.better(0, 9));
        c.throwsDue("no law", Checks.INDEX, () -> x.lines(0, 99));
        Checks.law(x, "eddy beam;");
        c.throwsDue("what 3", Checks.ARGUMENT, () -> x.better(0, 3));
        c.throwsDue("what -2", Checks.ARGUMENT, () -> x.better(0, -2));
        c.throwsDue("many 21", Checks.ARGUMENT, () -> x.lines(0, 21));
        c.throwsDue("many -1", Checks.ARGUMENT, () -> x.lines(0, -1));
        c.due("none is better", -1, x.better(0, -1));
        c.due("no line", 0, x.lines(0, 20));
    }

    private static void is(TankHulls x, long pull, long kind, long gives, long gets) {
        c.due("better's pull", pull, x.better(0, -1));
        c.due("better's kind", kind, x.better(0, 0));
        c.due("the one that gives", gives, x.better(0, 1));
        c.due("the one that gets", gets, x.better(0, 2));
    }

    private static void beams() {
        TankHulls x = new TankHulls();
        x.hull(100, 3);
        x.station(0, 1, 20, 5);
        Checks.law(x, "eddy beam;");
        is(x, 19, 0, 1, 0);
        c.due("the hull stays", 2005, x.station(0, 1, 20, 5));
        c.due("the hull stays", 1005, x.station(0, 0, 10, 5));
    }

    private static void drafts() {
        TankHulls x = new TankHulls();
        x.hull(100, 3);
        x.station(0, 2, 10, 9);
        Checks.law(x, "eddy draft*speed;");
        x.set(0, 1, 2, -1);
        is(x, 16, 1, 2, 0);
        x.station(0, 0, 9, 5);
        // the first has less beam: what it gets of draft makes less volume
        is(x, 16, 1, 2, 1);
    }

    private static void volumeStays() {
        TankHulls x = new TankHulls();
        x.hull(100, 2);
        x.station(0, 0, 20, 5);
        x.station(0, 1, 10, 4);
        Checks.law(x, "eddy beam;");
        // a beam that goes to the draft of 4 makes less volume: 7,000 becomes 6,950
        c.due("less volume is none", -1, x.better(0, -1));
        x.station(0, 1, 10, 5);
        is(x, 19, 0, 0, 1);
        TankHulls y = new TankHulls();
        y.hull(10, 2);
        y.station(0, 0, 20, 5);
        y.station(0, 1, 10, 4);
        Checks.law(y, "eddy beam;");
        // of a small hull the volume is 7 cut: 1,000 times 140 by 20,000, then 6
        c.due("less volume is none", -1, y.better(0, -1));
        y.station(0, 1, 13, 4);
        // 152 by 20, then 151 by 20: both are 7 when cut; the beam of 2 becomes 1
        is(y, 1, 0, 0, 1);
    }

    private static void limits() {
        TankHulls x = new TankHulls();
        x.hull(100, 2);
        x.station(0, 0, 60, 10);
        x.station(0, 1, 0, 10);
        Checks.law(x, "eddy 9999-beam-draft*100;");
        // a beam cannot pass 60 nor 0; drafts: the first gets, for it has the beam
        is(x, 9999 - 60 - 1100, 1, 1, 0);
        x.station(0, 0, 60, 60);
        c.due("all is at its limit", -1, x.better(0, 0));
        x.station(0, 1, 0, 0);
        c.due("nothing to give", -1, x.better(0, 0));
        TankHulls y = new TankHulls();
        y.hull(100, 2);
        y.station(0, 1, 0, 5);
        Checks.law(y, "eddy 100-beam;");
        c.due("no beam below 0", -1, y.better(0, 0));
        y.station(0, 1, 1, 5);
        c.due("the last one is given", 89, y.better(0, -1));
        y.station(0, 0, 59, 5);
        c.due("59 becomes 60", 40, y.better(0, -1));
    }

    private static void ties() {
        TankHulls x = new TankHulls();
        x.hull(100, 4);
        Checks.law(x, "eddy 100-beam;");
        is(x, 89, 0, 0, 1);
        Checks.law(x, "eddy 100-draft;");
        c.due("kind", 1, x.better(1, 0));
        c.due("gives", 0, x.better(1, 1));
        c.due("gets", 1, x.better(1, 2));
        Checks.law(x, "eddy 100-beam-draft;");
        c.due("of both kinds the first", 0, x.better(2, 0));
        Checks.law(x, "eddy 100-beam-2*draft;");
        c.due("the least pull before the first", 1, x.better(3, 0));
        c.due("its pull", 78, x.better(3, -1));
    }

    private static void lines() {
        TankHulls x = new TankHulls();
        x.hull(100, 2);
        x.station(0, 0, 40, 5);
        Checks.law(x, "eddy beam;");
        c.due("none are asked for", 0, x.lines(0, 0));
        c.due("nothing is done", 40, x.pull(0, 0));
        c.due("two", 2, x.lines(0, 2));
        c.due("pull", 38, x.pull(0, 0));
        c.due("all that there are", 13, x.lines(0, 20));
        c.due("pull", 25, x.pull(0, 0));
        c.due("no more", 0, x.lines(0, 20));
        c.due("lines of the first", 2505, x.station(0, 0, 60, 5));
        c.due("lines of the other", 2505, x.station(0, 1, 0, 5));
        c.due("20 at most", 20, x.lines(0, 20));
        c.due("lines then", 4005, x.station(0, 0, 1, 1));
        TankHulls y = new TankHulls();
        y.hull(100, 2);
        y.hull(100, 2);
        y.station(1, 0, 30, 5);
        Checks.law(y, "eddy beam;");
        c.due("the hull at hand alone", 0, y.lines(0, 9));
        y.set(1, 2, 5, -1);
        // at scale 2 the beam is half: one less shows only when it is odd
        c.due("by the model's pull", 14, y.better(0, -1));
        c.due("one, then none that shows", 1, y.lines(0, 9));
    }
}
