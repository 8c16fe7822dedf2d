/** Promises 15, 16 and 28 and what the Terms say of an HOUR and of draws: each sentence that names an edge. */
public final class HoursEdgesTest {
    private static final String ONE_HARBOUR = "eye(30,9)=0 wearer()=0 wear(0,0,0)=-1";

    public static void main(String[] args) {
        howMany();
        theLastHour();
        bears();
        out();
        nothing();
        worn();
        seen();
        howManyAreOut();
        draws();
        drawsOfEyes();
        seed();
        Due.end("HoursEdgesTest");
    }

    private static void howMany() {
        Edge.edge("15. n (1 to 60) HOURS", Edge.SOME, """
            hours(0)=BEYOND hours(-1)=BEYOND hours(61)=BEYOND hours(MIN)=BEYOND hours(MAX)=BEYOND count(2)=2 hours(1) count(2)=3
            hours(60) count(2)=63""");
        Edge.edge("16. n (1 to 40) HOURS by draws", Edge.SOME, """
            loose(0)=BEYOND loose(-1)=BEYOND loose(41)=BEYOND loose(60)=BEYOND loose(MIN)=BEYOND loose(MAX)=BEYOND count(2)=2
            count(9)=98 loose(1) count(2)=3 loose(40) count(2)=43""");
    }

    private static void theLastHour() {
        Edge.edge("15. STATE: HOUR would be above 9999", """
            166*hours(60) count(2)=9960 hours(40)=STATE hours(60)=STATE count(2)=9960 hours(39)=0 count(2)=9999 hours(1)=STATE
            hours(60)=STATE count(2)=9999""");
        Edge.edge("16. STATE: HOUR would be above 9999", """
            166*hours(60) loose(40)=STATE count(2)=9960 loose(39)=0 count(2)=9999 loose(1)=STATE loose(40)=STATE count(2)=9999""");
        Edge.edge("15, 16. BEYOND ahead of STATE", Edge.LAST_HOUR, """
            hours(61)=BEYOND hours(0)=BEYOND loose(41)=BEYOND loose(0)=BEYOND hours(MAX)=BEYOND loose(MAX)=BEYOND hours(1)=STATE
            loose(1)=STATE""");
        Edge.edge("16. STATE: nothing is drawn", Edge.LAST_HOUR, "eye(30,5)=0 seed(7)=1 loose(1)=STATE count(9)=7 ofEye(0,2)=5");
    }

    private static void bears() {
        Edge.edge("BEARS is less by HEAVY times its DREAD", ONE_HARBOUR, "hours(1)=0 ofWearer(0,2)=11 hours(1)=0 ofWearer(0,2)=2");
        Edge.edge("BEARS is less by the most that can be: 2 times 9", ONE_HARBOUR, "become(0,20)=3 say'0' text(0)=1 hours(1)=0 ofWearer(0,2)=2");
        Edge.edge("BEARS is not less by DREAD of 0", ONE_HARBOUR, "dread(9,0)=9 hours(60)=0 ofWearer(0,2)=20 ofWearer(0,0)=0");
        Edge.edge("BEARS is not less by HEAVY of 0: ALLEY", ONE_HARBOUR, "become(0,40)=3 say'9' text(0)=1 dread(0,9)=0 dread(1,9)=1 hours(60)=0 ofWearer(0,2)=20");
        Edge.edge("BEARS is not less by HEAVY of 0: SHUT in HOURS that 4 divides", ONE_HARBOUR, """
            become(0,50)=3 say'0' text(0)=1 hours(1)=0 ofWearer(0,2)=20 hours(1)=0 ofWearer(0,2)=2 set(0,0,99)=2 hours(2)=0
            ofWearer(0,2)=63 hours(1)=0 ofWearer(0,2)=63 hours(1)=0 ofWearer(0,2)=45""");
        Edge.edge("BEARS of 99 is less", ONE_HARBOUR, "set(0,0,99)=20 hours(1)=0 ofWearer(0,2)=90");
        Edge.edge("its DREAD: of what the HEEDED one shows, as it is now", ONE_HARBOUR, "dread(9,1)=9 hours(1)=0 ofWearer(0,2)=19 change(0,0,7)=9 hours(1)=0 ofWearer(0,2)=12");
    }

    private static void out() {
        Edge.edge("BEARS is 0 at least, and then the EYE is out: just 0", ONE_HARBOUR, """
            set(0,0,9)=20 hours(1)=1 ofWearer(0,2)=20 ofWearer(0,0)=-1 ofEye(0,4)=-1 ofWearer(0,4)=-1""");
        Edge.edge("BEARS is 0 at least: below 0", ONE_HARBOUR, "set(0,0,8)=20 hours(1)=1 ofWearer(0,2)=20 ofWearer(0,0)=-1");
        Edge.edge("BEARS is 0 at least: far below 0", ONE_HARBOUR, "set(0,0,1)=20 become(0,20)=3 say'0' text(0)=1 hours(1)=1 ofWearer(0,2)=20 ofWearer(0,0)=-1");
        Edge.edge("BEARS is 1: it isn't out", ONE_HARBOUR, "set(0,0,10)=20 hours(1)=0 ofWearer(0,2)=1 ofWearer(0,0)=0 hours(1)=1 ofWearer(0,2)=20");
        Edge.edge("if BEARS is 0, though it isn't less: DREAD of 0", ONE_HARBOUR, "dread(9,0)=9 set(0,0,0)=20 hours(1)=1 ofWearer(0,2)=20 ofWearer(0,0)=-1");
        Edge.edge("if BEARS is 0, though it isn't less: HEAVY of 0", ONE_HARBOUR, "become(0,40)=3 set(0,0,0)=20 hours(1)=1 ofWearer(0,2)=20 ofWearer(0,0)=-1");
        Edge.edge("the EYE that was HEEDED is out: the LEFT one alone", ONE_HARBOUR, """
            eye(30,9)=1 wear(0,1,1)=-1 say'0' text(1)=1 set(0,0,9)=20 hours(1)=1 ofWearer(0,0)=-1 ofWearer(0,1)=1 ofWearer(0,2)=20""");
        Edge.edge("the EYE that was HEEDED is out: the RIGHT one alone", ONE_HARBOUR, """
            eye(30,9)=1 wear(0,1,1)=-1 say'1' text(1)=1 set(0,0,9)=20 hours(1)=1 ofWearer(0,0)=0 ofWearer(0,1)=-1 ofWearer(0,2)=20""");
        Edge.edge("the EYE that was HEEDED: as it was ahead of WORN's being more", """
            eye(40,0)=0 eye(30,9)=1 wearer()=0 wear(0,0,0)=-1 wear(0,1,1)=-1 say'0' text(0)=1 say'l' text(1)=1 set(0,0,0)=20 hours(1)=1
            ofWearer(0,0)=-1 ofWearer(0,1)=1 ofWearer(0,3)=1""");
        Edge.edge("out with nobody: it can be worn again, and BEARS goes on from 20", ONE_HARBOUR, "hours(3)=1 wear(0,1,0)=-1 hours(1)=0 ofWearer(0,2)=11");
    }

    private static void nothing() {
        Edge.edge("one who HEEDS nothing: BEARS is 1 more", "wearer()=0 hours(1)=0 ofWearer(0,2)=21 ofWearer(0,3)=0");
        Edge.edge("one who HEEDS nothing: BEARS of 0 is 1 more, not 20 again", "wearer()=0 set(0,0,0)=20 hours(1)=0 ofWearer(0,2)=1");
        Edge.edge("one who HEEDS nothing: 99 at most", "wearer()=0 set(0,0,97)=20 hours(1)=0 ofWearer(0,2)=98 hours(1)=0 ofWearer(0,2)=99 hours(1)=0 ofWearer(0,2)=99 hours(60)=0 ofWearer(0,2)=99");
        Edge.edge("one whose EYE is out in that HOUR: no more than 20 then, 1 more in the next", ONE_HARBOUR, "hours(3)=1 ofWearer(0,2)=20 hours(1)=0 ofWearer(0,2)=21");
        Edge.edge("no WEARERS: HOUR is 1 more", "hours(1)=0 count(2)=1 eye(0,0)=0 hours(1)=0 count(2)=2 ofEye(0,3)=0");
    }

    private static void worn() {
        Edge.edge("EYES that it wears have WORN 1 more (held)", ONE_HARBOUR, """
            dread(9,0)=9 change(0,1,9997)=0 hours(1)=0 ofEye(0,3)=9998 hours(1)=0 ofEye(0,3)=9999 hours(1)=0 ofEye(0,3)=9999
            hours(60)=0 ofEye(0,3)=9999""");
        Edge.edge("EYES that it wears: both, the one that isn't HEEDED, too", ONE_HARBOUR, """
            eye(30,9)=1 eye(30,9)=2 wear(0,1,1)=-1 dread(9,0)=9 say'0' text(1)=1 change(1,1,9999)=0 hours(5)=0 ofEye(0,3)=5 ofEye(1,3)=9999
            ofEye(2,3)=0 say'1' text(1)=1 hours(2)=0 ofEye(0,3)=7""");
        Edge.edge("EYES that it wears: the one that is out in that HOUR, too", ONE_HARBOUR, "hours(3)=1 ofEye(0,3)=3 hours(1)=0 ofEye(0,3)=3");
        Edge.edge("EYES that it wears: the other one goes on", ONE_HARBOUR, "eye(30,9)=1 wear(0,1,1)=-1 say'0' text(1)=1 hours(4)=1 ofEye(0,3)=3 ofEye(1,3)=4 ofWearer(0,2)=11");
    }

    private static void seen() {
        Edge.edge("that THING is SEEN: 0 and 9", "eye(30,0)=0 eye(30,9)=1 wearer()=0 wearer()=1 wear(0,0,0)=-1 wear(1,1,1)=-1 hours(1)=0 ofWearer(0,3)=1 ofWearer(1,3)=512");
        Edge.edge("that THING is SEEN: what was SEEN is so yet", ONE_HARBOUR, "set(0,1,517)=0 hours(1)=0 ofWearer(0,3)=517 change(0,0,1)=9 hours(1)=0 ofWearer(0,3)=519");
        Edge.edge("that THING is SEEN: that of the HEEDED one alone", ONE_HARBOUR, "eye(30,1)=1 wear(0,1,1)=-1 hours(1)=0 ofWearer(0,3)=512 hours(1)=0 ofWearer(0,3)=514");
        Edge.edge("that THING is SEEN: though the EYE is out in that HOUR", ONE_HARBOUR, "set(0,0,1)=20 hours(1)=1 ofWearer(0,3)=512");
        Edge.edge("WEARERS by numbers, HOUR is 1 more behind all", Edge.SIX, """
            eye(0,0)=0 eye(0,0)=1 wear(0,0,0)=-1 wear(5,1,1)=-1 hours(1)=0 ofWearer(0,3)=1 ofWearer(5,3)=1 hours(1)=0 ofWearer(0,3)=3
            ofWearer(5,3)=3 ofWearer(3,2)=22""");
    }

    private static void howManyAreOut() {
        Edge.edge("15. how many eyes were taken out: by all, in all the HOURS", """
            eye(30,9)=0 eye(30,9)=1 eye(30,9)=2 wearer()=0 wearer()=1 wear(0,0,0)=-1 wear(0,1,1)=-1 wear(1,0,2)=-1 hours(2)=0 hours(1)=2
            hours(2)=0 hours(1)=1 hours(60)=0""");
        Edge.edge("15. how many eyes were taken out: at once", """
            eye(30,9)=0 eye(30,9)=1 eye(30,9)=2 wearer()=0 wearer()=1 wear(0,0,0)=-1 wear(0,1,1)=-1 wear(1,0,2)=-1 hours(60)=3 hours(1)=0
            count(5)=0""");
        Edge.edge("16. likewise", """
            eye(30,9)=0 eye(30,9)=1 wearer()=0 wear(0,0,0)=-1 wear(0,1,1)=-1 dread(0,9)=0 dread(1,9)=1 dread(2,9)=2 dread(3,9)=3
            dread(4,9)=4 dread(5,9)=5 dread(6,9)=6 dread(7,9)=7 dread(8,9)=8 loose(2)=0 loose(4)=2 loose(40)=0""");
    }

    private static void draws() {
        Edge.edge("z (1 at first)", "count(9)=1 seed(5)=1 count(9)=5");
        Edge.edge("each makes it z * 1103515245 + 12345", "loose(1)=0 count(9)=1103527590 seed(0)=1103527590 loose(1)=0 count(9)=12345");
        Edge.edge("z: an int, that goes round", "seed(-1)=1 loose(1)=0 count(9)=-1103502900 seed(2)=-1103502900 loose(1)=0 count(9)=-2087924461 seed(MIN)=-2087924461 loose(1)=0 count(9)=-2147471303");
        Edge.edge("if there are EYES; a draw is made without them, too", "loose(1)=0 count(9)=1103527590 count(2)=1 loose(1)=0 count(9)=-1770082073 count(2)=2");
        Edge.edge("hours(), not by draws, draws nothing", "eye(30,3)=0 hours(9)=0 count(9)=1 ofEye(0,2)=3");
    }

    private static void drawsOfEyes() {
        Edge.edge("BASE of the one that is its rest by how many there are: three", """
            eye(30,9)=0 eye(30,9)=1 eye(30,9)=2 loose(1)=0 ofEye(0,2)=9 ofEye(1,2)=9 ofEye(2,2)=1""");
        Edge.edge("BASE of the one that is its rest by how many there are: one", "eye(30,9)=0 loose(1)=0 ofEye(0,2)=1");
        Edge.edge("gives z >>> 8, of z below 0, too: 12466657, of eight", Edge.EIGHT, """
            seed(-1)=1 loose(1)=0 ofEye(0,2)=0 ofEye(1,2)=2 ofEye(2,2)=2 ofEye(3,2)=3 ofEye(4,2)=4 ofEye(5,2)=5 ofEye(6,2)=6 ofEye(7,2)=7""");
        Edge.edge("then an HOUR: what was drawn is shown in it", """
            eye(30,9)=0 wearer()=0 wear(0,0,0)=-1 loose(1)=0 ofWearer(0,3)=2 ofWearer(0,2)=19 ofEye(0,3)=1""");
        Edge.edge("of n HOURS each is by a draw: 2 are as 1 and 1", """
            eye(30,9)=0 wearer()=0 wear(0,0,0)=-1 loose(2)=0 count(9)=-1770082073 ofEye(0,2)=4 ofWearer(0,3)=18 ofWearer(0,2)=15""");
    }

    private static void seed() {
        Edge.edge("28. what it was (any number)", """
            seed(MIN)=1 seed(MAX)=MIN seed(-1)=MAX seed(-1000000001)=-1 seed(-1000000005)=-1000000001 seed(0)=-1000000005 count(9)=0
            told(1)=0 told(5)=0""");
    }
}
