/** Promises 29 to 41 and what the Terms say of VOICES, THE TRACE, SHEETS: each sentence that names an edge. */
public final class RowsEdgesTest {
    public static void main(String[] args) {
        voice();
        intsThatGoRound();
        trace();
        sheet();
        sheetsOfNothing();
        put();
        lowestBits();
        move();
        moveOverItself();
        moveIsRefused();
        bases();
        judge();
        image();
        whatIsKept();
        whatIsNotKept();
        tell();
        check();
        count();
        told();
        Due.end("RowsEdgesTest");
    }

    private static void voice() {
        Edge.edge("29. no such EYE", Edge.SOME, """
            voice(3,0,0)=BEYOND voice(-1,0,0)=BEYOND voice(8,0,0)=BEYOND voice(MIN,0,0)=BEYOND voice(MAX,0,0)=BEYOND voice(2,0,5)=7""");
        Edge.edge("29. VOICES 0 sees, 1 looks, 2 blinks, 3 tells", Edge.SOME, """
            voice(0,4,0)=BEYOND voice(0,-1,0)=BEYOND voice(0,MIN,0)=BEYOND voice(0,MAX,0)=BEYOND count(8)=4 voice(0,0,9)=9
            voice(0,1,9)=18 voice(0,2,9)=5 voice(0,3,9)=23""");
        Edge.edge("29. n is the number: that of the last EYE", Edge.EIGHT, "voice(7,0,1)=8 voice(7,1,1)=16 voice(0,0,1)=1");
        Edge.edge("29. m as told: 0 and 9", "eye(0,0)=0 eye(9,0)=1 voice(0,2,5)=5 voice(1,2,5)=-4");
        Edge.edge("29. the BODY of its KIND, as it is now", "eye(0,0)=0 voice(0,0,5)=5 become(0,10)=0 voice(0,0,5)=15 become(0,40)=1 voice(0,0,5)=15 become(0,60)=4 voice(0,0,5)=5");
    }

    private static void intsThatGoRound() {
        Edge.edge("29. ints that go round: x + n", Edge.EIGHT, "voice(7,0,MAX)=-2147483642 voice(1,0,MAX)=MIN voice(0,0,MAX)=MAX voice(0,0,MIN)=MIN");
        Edge.edge("29. ints that go round: * 2, * 3", "eye(0,0)=0 voice(0,1,MAX)=-2 voice(0,1,MIN)=0 become(0,10)=0 voice(0,0,MAX)=2147483645 voice(0,0,MIN)=MIN voice(0,1,MAX)=-6");
        Edge.edge("29. ints that go round: x - m", "eye(9,0)=0 voice(0,2,MIN)=2147483639 voice(0,2,MAX)=2147483638");
        Edge.edge("29. ints that go round: less than nothing of the least", "eye(30,0)=0 voice(0,2,MIN)=MIN voice(0,2,MAX)=-2147483647 voice(0,2,0)=0");
        Edge.edge("29. ints that go round: x + 1 of SHUT", "eye(50,0)=0 voice(0,1,MAX)=-1 voice(0,1,-1)=-1");
        Edge.edge("29. any number: one like an ERROR is none", "eye(0,0)=0 voice(0,0,-1000000001)=-1000000001 voice(0,0,-1000000005)=-1000000005 told(1)=0 told(5)=0 count(8)=1 trace(0)=10");
    }

    private static void trace() {
        Edge.edge("30. NONE: there is none such: no voice() yet", "trace(0)=NONE trace(-1)=NONE trace(1)=NONE trace(40)=NONE trace(MIN)=NONE trace(MAX)=NONE count(8)=0");
        Edge.edge("30. NONE: there is none such", Edge.SOME, """
            trace(0)=13 trace(1)=11 trace(2)=10 trace(3)=12 trace(4)=NONE trace(-1)=NONE trace(39)=NONE trace(40)=NONE trace(MIN)=NONE
            trace(MAX)=NONE""");
        Edge.edge("30. of the latest voice(): a longer one ahead is gone", Edge.SOME, "voice(0,2,0) count(8)=1 trace(0)=12 trace(1)=NONE");
        Edge.edge("30. of the latest voice(): one that was refused is none", Edge.SOME, "voice(0,4,0)=BEYOND voice(3,0,0)=BEYOND count(8)=4 trace(3)=12");
        Edge.edge("30. the most BODIES that there can be, which is far from 40", """
            eye(60,0)=0 voice(0,3,0) count(8)=9 trace(0)=71 trace(1)=11 trace(2)=10 trace(3)=13 trace(4)=11 trace(5)=10 trace(6)=70
            trace(7)=40 trace(8)=12 trace(9)=NONE""");
    }

    private static void sheet() {
        Edge.edge("31. SHEETS 0 .. 3", Edge.SOME, """
            sheet(-1,8,1)=BEYOND sheet(4,8,1)=BEYOND sheet(MIN,8,1)=BEYOND sheet(MAX,8,1)=BEYOND sheet(4,0,0)=BEYOND sheet(3,8,1)=1
            put(3,0,1)=1 sheet(0,8,1)=1 put(0,1,1)=BEYOND""");
        Edge.edge("31. bits 8, 16, 32, 0", Edge.SOME, """
            sheet(0,1,1)=BEYOND sheet(0,7,1)=BEYOND sheet(0,9,1)=BEYOND sheet(0,15,1)=BEYOND sheet(0,17,1)=BEYOND sheet(0,24,1)=BEYOND
            sheet(0,31,1)=BEYOND sheet(0,33,1)=BEYOND sheet(0,64,1)=BEYOND sheet(0,-8,1)=BEYOND sheet(0,MIN,1)=BEYOND sheet(0,MAX,1)=BEYOND
            sheet(0,8,1)=1 sheet(0,16,1)=1 sheet(0,32,1)=1 sheet(0,0,1)=1""");
        Edge.edge("31. at most 40 numbers", Edge.SOME, """
            sheet(3,8,40)=1 put(3,39,1)=1 put(3,40,1)=BEYOND sheet(3,16,40)=1 put(3,39,1)=1 sheet(3,32,40)=1 put(3,39,1)=1 sheet(3,8,41)=BEYOND
            sheet(3,32,MAX)=BEYOND put(3,39,1)=1""");
        Edge.edge("31. no numbers", Edge.SOME, "sheet(3,8,0)=1 put(3,0,1)=BEYOND bases(3)=0 judge(3)=0 sheet(3,32,0)=1 put(3,0,1)=BEYOND");
        Edge.edge("31. STATE: n is below 0 (ahead of BEYOND of n)", Edge.SOME, "sheet(0,8,-1)=STATE sheet(1,16,-1)=STATE sheet(3,32,MIN)=STATE sheet(0,8,41)=BEYOND");
        Edge.edge("31. BEYOND of the SHEET or the bits ahead of STATE", Edge.SOME, "sheet(4,8,-1)=BEYOND sheet(-1,8,-1)=BEYOND sheet(0,9,-1)=BEYOND sheet(0,-1,MIN)=BEYOND");
        Edge.edge("31. 0: it is missing, n doesn't matter", Edge.SOME, """
            sheet(0,0,-1)=1 put(0,0,0)=NONE sheet(1,0,41)=1 put(1,0,0)=NONE sheet(2,0,MIN)=1 put(2,0,0)=NONE sheet(2,0,MAX)=1 sheet(3,0,0)=1
            put(3,0,0)=NONE""");
    }

    private static void sheetsOfNothing() {
        Edge.edge("31. all 0: what was there is gone", Edge.SOME, "sheet(0,8,3)=1 bases(0)=3 ofEye(0,2)=0 ofEye(1,2)=0 ofEye(2,2)=0");
        Edge.edge("31. all 0: by other bits", Edge.SOME, "sheet(0,32,3)=1 bases(0)=3 ofEye(0,2)=0 ofEye(1,2)=0 ofEye(2,2)=0");
        Edge.edge("31. all 0: behind fewer, and behind none", Edge.SOME, "sheet(0,8,1)=1 sheet(0,8,3)=1 bases(0)=3 ofEye(2,2)=0 put(0,2,5)=1 sheet(0,0,3)=1 sheet(0,8,3)=1 bases(0)=3 ofEye(2,2)=0");
        Edge.edge("31. all 0: the fortieth", "eye(30,9)=0 sheet(0,8,40)=1 put(0,39,5)=1 sheet(0,8,40)=1 move(0,39,0,0,1)=1 bases(0)=1 ofEye(0,2)=0");
        Edge.edge("31. one SHEET's alone", Edge.SOME, "sheet(1,8,3)=1 bases(0)=3 ofEye(0,2)=4 ofEye(1,2)=5 ofEye(2,2)=6");
    }

    private static void put() {
        Edge.edge("32. BEYOND: no such SHEET", Edge.SOME, "put(-1,0,0)=BEYOND put(4,0,0)=BEYOND put(MIN,0,0)=BEYOND put(MAX,0,0)=BEYOND");
        Edge.edge("32. NONE: it is missing, ahead of BEYOND: no such number", Edge.SOME, "put(3,0,0)=NONE put(3,-1,0)=NONE put(3,40,0)=NONE put(3,MAX,0)=NONE");
        Edge.edge("32. BEYOND: no such SHEET, ahead of NONE", Edge.SOME, "put(4,-1,0)=BEYOND put(4,99,0)=BEYOND put(-1,40,0)=BEYOND");
        Edge.edge("32. BEYOND: no such number", Edge.SOME, """
            put(0,-1,1)=BEYOND put(0,3,1)=BEYOND put(0,39,1)=BEYOND put(0,MIN,1)=BEYOND put(0,MAX,1)=BEYOND put(0,0,9)=1 put(0,2,8)=1
            bases(0)=3 ofEye(0,2)=9 ofEye(1,2)=5 ofEye(2,2)=8""");
    }

    private static void lowestBits() {
        Edge.edge("32. its lowest bits: 8", Edge.EIGHT, """
            sheet(0,8,7)=1 put(0,0,256)=1 put(0,1,260)=1 put(0,2,-255)=1 put(0,3,MIN)=1 put(0,4,0x10009)=1 put(0,5,-247)=1 put(0,6,255)=1
            bases(0)=6 ofEye(0,2)=0 ofEye(1,2)=4 ofEye(2,2)=1 ofEye(3,2)=0 ofEye(4,2)=9 ofEye(5,2)=9 ofEye(6,2)=6""");
        Edge.edge("32. its lowest bits: 16", Edge.EIGHT, """
            sheet(0,16,6)=1 put(0,0,65536)=1 put(0,1,65540)=1 put(0,2,-65535)=1 put(0,3,MIN)=1 put(0,4,0x100009)=1 put(0,5,256)=1 bases(0)=5
            ofEye(0,2)=0 ofEye(1,2)=4 ofEye(2,2)=1 ofEye(3,2)=0 ofEye(4,2)=9 ofEye(5,2)=5""");
        Edge.edge("32. its lowest bits: 32, all of them", Edge.EIGHT, """
            sheet(0,32,1)=1 put(0,0,9)=1 bases(0)=1 put(0,0,256)=1 bases(0)=0 put(0,0,65536)=1 bases(0)=0 put(0,0,MIN)=1 bases(0)=0
            put(0,0,-1)=1 bases(0)=0 ofEye(0,2)=9""");
    }

    private static void move() {
        Edge.edge("33. BEYOND: n, i, or j is below 0", Edge.SOME, """
            move(1,-1,2,0,1)=BEYOND move(1,0,2,-1,1)=BEYOND move(1,0,2,0,-1)=BEYOND move(1,MIN,2,0,1)=BEYOND move(1,0,2,MIN,1)=BEYOND
            move(1,0,2,0,MIN)=BEYOND move(1,-1,2,-1,-1)=BEYOND move(1,-1,2,0,0)=BEYOND move(1,0,2,-1,0)=BEYOND""");
        Edge.edge("33. BEYOND: they don't stand there: where they come from", Edge.SOME, """
            move(1,0,2,0,2)=2 move(1,0,2,0,3)=BEYOND move(1,1,2,0,1)=1 move(1,1,2,0,2)=BEYOND move(1,2,2,0,1)=BEYOND move(1,MAX,2,0,1)=BEYOND
            move(1,1,2,0,MAX)=BEYOND move(1,MAX,2,0,MAX)=BEYOND""");
        Edge.edge("33. BEYOND: they don't stand there: where they come to", Edge.SOME, """
            move(2,0,1,0,2)=2 move(2,0,1,0,3)=BEYOND move(2,0,1,1,1)=1 move(2,0,1,1,2)=BEYOND move(2,0,1,2,1)=BEYOND move(2,0,1,MAX,1)=BEYOND
            move(2,0,1,1,MAX)=BEYOND move(2,0,1,MAX,MAX)=BEYOND""");
        Edge.edge("33. n of 0: none come", Edge.SOME, "move(1,0,2,0,0)=0 move(0,0,0,2,0)=0 bases(0)=3 ofEye(0,2)=4 ofEye(2,2)=6");
        Edge.edge("33. n of 0: behind the last number none stand, and none are asked for; beyond that there is no place", Edge.SOME, """
            move(1,2,2,5,0)=0 move(1,3,2,0,0)=BEYOND move(1,0,2,6,0)=BEYOND move(1,MAX,2,0,0)=BEYOND move(1,0,2,MAX,0)=BEYOND""");
        Edge.edge("33. all forty", "eye(30,9)=0 sheet(0,8,40)=1 sheet(1,8,40)=1 put(0,39,5)=1 move(0,0,1,0,40)=40 move(0,0,1,0,41)=BEYOND move(0,1,1,0,40)=BEYOND move(1,39,1,0,1)=1 bases(1)=1 ofEye(0,2)=5");
        Edge.edge("33. they come to the other one alone, and the rest stays", Edge.SOME, """
            sheet(3,8,3)=1 put(3,0,9)=1 put(3,1,9)=1 put(3,2,9)=1 move(0,1,3,1,1)=1 bases(3)=3 ofEye(0,2)=9 ofEye(1,2)=5 ofEye(2,2)=9 bases(0)=3
            ofEye(0,2)=4 ofEye(1,2)=5 ofEye(2,2)=6""");
    }

    private static void moveOverItself() {
        String five = "5*eye(30,9) sheet(0,8,5)=1 put(0,0,1)=1 put(0,1,2)=1 put(0,2,3)=1 put(0,3,4)=1 put(0,4,5)=1";
        Edge.edge("33. or the same, as they all were: upward", five, """
            move(0,0,0,1,4)=4 bases(0)=5 ofEye(0,2)=1 ofEye(1,2)=1 ofEye(2,2)=2 ofEye(3,2)=3 ofEye(4,2)=4""");
        Edge.edge("33. or the same, as they all were: downward", five, """
            move(0,1,0,0,4)=4 bases(0)=5 ofEye(0,2)=2 ofEye(1,2)=3 ofEye(2,2)=4 ofEye(3,2)=5 ofEye(4,2)=5""");
        Edge.edge("33. or the same: to where they are", five, "move(0,0,0,0,5)=5 bases(0)=5 ofEye(0,2)=1 ofEye(4,2)=5");
    }

    private static void moveIsRefused() {
        Edge.edge("33. BEYOND: no such SHEET", Edge.SOME, "move(-1,0,0,0,1)=BEYOND move(4,0,0,0,1)=BEYOND move(0,0,-1,0,1)=BEYOND move(0,0,4,0,1)=BEYOND move(MIN,0,MAX,0,0)=BEYOND");
        Edge.edge("33. BEYOND: no such SHEET, ahead of NONE", Edge.SOME, "move(3,0,4,0,1)=BEYOND move(4,0,3,0,1)=BEYOND move(3,0,-1,0,-1)=BEYOND");
        Edge.edge("33. NONE: one is missing", Edge.SOME, "move(3,0,0,0,1)=NONE move(0,0,3,0,1)=NONE move(3,0,3,0,0)=NONE");
        Edge.edge("33. NONE ahead of KIND and of BEYOND: n", Edge.SOME, "move(3,-1,0,0,1)=NONE move(0,0,3,0,-1)=NONE move(1,0,3,0,MAX)=NONE");
        Edge.edge("33. KIND: they are of unlike bits", Edge.SOME, """
            move(0,0,1,0,1)=KIND move(1,0,0,0,1)=KIND sheet(3,32,3)=1 move(0,0,3,0,1)=KIND move(1,0,3,0,1)=KIND move(3,0,2,0,0)=KIND
            sheet(3,8,3)=1 move(0,0,3,0,3)=3""");
        Edge.edge("33. KIND ahead of BEYOND: n, i, j", Edge.SOME, "move(0,-1,1,0,1)=KIND move(0,0,1,-1,1)=KIND move(0,0,1,0,-1)=KIND move(0,9,1,9,9)=KIND move(0,MAX,1,MIN,MAX)=KIND");
    }

    private static void bases() {
        Edge.edge("34. BEYOND: no such SHEET", Edge.SOME, "bases(-1)=BEYOND bases(4)=BEYOND bases(MIN)=BEYOND bases(MAX)=BEYOND");
        Edge.edge("34. NONE: it is missing", Edge.SOME, "bases(3)=NONE sheet(0,0,0)=1 bases(0)=NONE");
        Edge.edge("34. up to the first for which there is no EYE", Edge.SOME, "bases(2)=3 ofEye(0,2)=0 ofEye(2,2)=0");
        Edge.edge("34. up to the first for which there is no EYE: there are none", "sheet(0,8,40)=1 bases(0)=0 told(2)=0");
        Edge.edge("34. up to the first for which there is no EYE: eight of forty", Edge.EIGHT, "sheet(0,8,40)=1 put(0,7,9)=1 put(0,8,10)=1 bases(0)=8 ofEye(7,2)=9 ofEye(1,2)=0");
        Edge.edge("34. fewer numbers than EYES: the others stay", Edge.SOME, "bases(1)=2 ofEye(0,2)=0 ofEye(1,2)=7 ofEye(2,2)=8");
        Edge.edge("34. a SHEET without numbers", Edge.SOME, "sheet(0,8,0)=1 bases(0)=0 ofEye(0,2)=3");
        Edge.edge("34. up to the first that is not 0 to 9 (no ERROR then): 10", Edge.SOME, "put(0,0,9)=1 put(0,1,10)=1 bases(0)=1 ofEye(0,2)=9 ofEye(1,2)=6 ofEye(2,2)=8 told(1)=0");
        Edge.edge("34. up to the first that is not 0 to 9 (no ERROR then): below 0", Edge.SOME, "sheet(0,32,3)=1 put(0,1,-1)=1 bases(0)=1 ofEye(0,2)=0 ofEye(1,2)=6 told(1)=0");
        Edge.edge("34. up to the first that is not 0 to 9: the very first", Edge.SOME, "put(0,0,255)=1 bases(0)=0 ofEye(0,2)=3 ofEye(1,2)=6 told(1)=0");
    }

    private static void judge() {
        Edge.edge("35. BEYOND: no such SHEET", Edge.SOME, "judge(-1)=BEYOND judge(4)=BEYOND judge(MIN)=BEYOND judge(MAX)=BEYOND");
        Edge.edge("35. NONE: it is missing", Edge.SOME, "judge(3)=NONE sheet(0,0,0)=1 judge(0)=NONE");
        String three = "eye(30,4)=0 eye(30,5)=1 eye(30,6)=2 sheet(0,8,3)=1 put(0,0,4)=1 put(0,1,5)=1 put(0,2,6)=1";
        Edge.edge("35. -1: all are", three, "judge(0)=-1");
        Edge.edge("35. -1: all are: none by none", "sheet(0,8,0)=1 judge(0)=-1");
        Edge.edge("35. the first that isn't so", three, "put(0,2,7)=1 judge(0)=2 put(0,0,3)=1 judge(0)=0 put(0,0,4)=1 put(0,1,6)=1 judge(0)=1");
        Edge.edge("35. one that lacks", three, "eye(30,0)=3 judge(0)=3 put(0,2,0)=1 judge(0)=2 sheet(0,8,0)=1 judge(0)=0");
        Edge.edge("35. one that is too many", three, "sheet(0,8,4)=1 put(0,0,4)=1 put(0,1,5)=1 put(0,2,6)=1 judge(0)=3 put(0,1,9)=1 judge(0)=1");
        Edge.edge("35. one that is too many: by no EYE", "sheet(0,8,1)=1 judge(0)=0");
        Edge.edge("35. what EYES SHOW now", "eye(60,9)=0 sheet(0,8,1)=1 judge(0)=0 put(0,0,9)=1 judge(0)=-1 hours(1)=0 judge(0)=0 put(0,0,0)=1 judge(0)=-1 put(0,0,10)=1 judge(0)=0");
        Edge.edge("35. eight", Edge.EIGHT, "sheet(0,8,8)=1 judge(0)=1 put(0,1,1)=1 put(0,2,2)=1 put(0,3,3)=1 put(0,4,4)=1 put(0,5,5)=1 put(0,6,6)=1 judge(0)=7 put(0,7,7)=1 judge(0)=-1");
    }

    private static void image() {
        Edge.edge("36. how often that was done", "image()=1 image()=2 image()=3 restore()=0 image()=4");
        Edge.edge("37. NONE: there is none", "restore()=NONE eye(0,0)=0 hours(1)=0 restore()=NONE count(0)=1 count(2)=1 image()=1 restore()=1");
        Edge.edge("37. HOUR, as the IMAGE has it", "hours(5)=0 image()=1 hours(7)=0 restore()=5 count(2)=5");
        Edge.edge("37. which stays", "wearer()=0 image()=1 set(0,0,5)=20 restore()=0 ofWearer(0,2)=20 set(0,0,6)=20 restore()=0 ofWearer(0,2)=20");
        Edge.edge("36. in place of one ahead", "wearer()=0 image()=1 hours(1)=0 image()=2 hours(1)=0 restore()=1 ofWearer(0,2)=21 restore()=1");
        Edge.edge("36. what comes behind it doesn't change it", "image()=1 eye(0,0)=0 wearer()=0 wear(0,0,0)=-1 hours(1)=0 restore()=0 count(0)=0 count(1)=0");
        Edge.edge("37. behind it, EYES and WEARERS are as at first when they come", """
            image()=1 eye(45,6)=0 wearer()=0 wear(0,0,0)=-1 wear(0,1,0)=-1 hours(3)=0 set(0,0,9)=20 restore()=0 eye(0,0)=0 wearer()=0
            ofEye(0,3)=0 ofEye(0,4)=-1 ofWearer(0,0)=-1 ofWearer(0,1)=-1 ofWearer(0,2)=20 ofWearer(0,3)=0""");
        Edge.edge("36. the last HOUR", Edge.LAST_HOUR, "image()=1 restore()=9999 hours(1)=STATE");
    }

    private static void whatIsKept() {
        Edge.edge("36. All: DREAD", "image()=1 dread(0,5)=0 dread(9,5)=9 restore()=0 dread(0,1)=0 dread(9,1)=9");
        Edge.edge("36. All: EYES", "eye(34,5)=0 change(0,1,6)=0 image()=1 become(0,11)=3 change(0,0,2)=5 change(0,1,3)=6 eye(0,0)=1 restore()=0 count(0)=1 ofEye(0,0)=3 ofEye(0,1)=4 ofEye(0,2)=5 ofEye(0,3)=6");
        Edge.edge("36. All: the eighth EYE and the sixth WEARER", Edge.EIGHT, Edge.SIX, """
            wear(5,1,7)=-1 wear(0,0,0)=-1 set(5,0,98)=20 set(5,1,512)=0 image()=1 change(7,0,0)=7 wear(5,1,-1)=7 wear(0,0,-1)=0 set(5,0,1)=98
            set(5,1,1)=512 restore()=0 ofEye(7,2)=7 ofWearer(5,1)=7 ofWearer(0,0)=0 ofWearer(5,2)=98 ofWearer(5,3)=512 eye(0,0)=FULL
            wearer()=FULL""");
        Edge.edge("36. All: TEXTS", "say'b*2' text(0)=1 image()=1 say'1' text(0)=1 say'l' text(1)=1 restore()=0 law(0,3,0,0)=6 law(1,1,0,0)=0 law(1,0,0,1)=1");
        Edge.edge("36. All: no TEXTS", "image()=1 say'1' text(0)=1 say'l' text(1)=1 restore()=0 law(0,3,4,9)=7 law(1,1,0,0)=0");
        Edge.edge("36. All: THE TAPE", "say'1+2' image()=1 text(0)=1 say'9' restore()=0 count(6)=3 text(0)=1 law(0,0,0,0)=3");
        Edge.edge("36. All: THE TAPE, full and empty", "image()=1 6*feed(0x2B622B622B622B62,8) feed(0x622B,2)=50 image()=2 text(0)=-58 restore()=0 count(6)=50 feed(0,1)=FULL");
        Edge.edge("36. All: THE TAPE, empty", "image()=1 say'12345678' restore()=0 count(6)=0 text(0)=-10");
        Edge.edge("36. All: the numbers that wait", "wearer()=0 tell(21)=1 tell(22)=2 image()=1 tell(5)=3 check()=3 count(7)=0 tell(9)=1 restore()=0 count(7)=2 check()=0 restore()=0 tell(23)=3 check()=0");
        Edge.edge("36. All: none waits", "image()=1 tell(1)=1 restore()=0 count(7)=0 check()=0");
        Edge.edge("36. All: twenty wait", "20*tell(0) image()=1 check()=0 restore()=0 count(7)=20 tell(0)=FULL check()=0");
        Edge.edge("36. All: z", "seed(7)=1 image()=1 loose(3)=0 restore()=0 count(9)=7");
    }

    private static void whatIsNotKept() {
        Edge.edge("36. but SHEETS", Edge.SOME, """
            image()=2 sheet(0,0,0)=1 sheet(3,8,1)=1 put(3,0,2)=1 put(1,0,3)=1 restore()=2 bases(0)=NONE bases(3)=1 ofEye(0,2)=2 bases(1)=2
            ofEye(0,2)=3""");
        Edge.edge("36. but THE TRACE", Edge.SOME, "image()=2 voice(0,0,0)=0 restore()=2 count(8)=1 trace(0)=10 trace(1)=NONE");
        Edge.edge("36. but what told() tells", "trace(0)=NONE image()=1 eye(70,0)=BEYOND trace(0)=NONE restore()=0 told(1)=1 told(2)=2 told(6)=BEYOND restore()=0 told(1)=2");
        Edge.edge("36. and how often this was done", "image()=1 image()=2 restore()=0 image()=3");
    }

    private static void tell() {
        Edge.edge("38. One more number waits: how many. FULL: 20 wait", "18*tell(7) tell(7)=19 tell(7)=20 tell(7)=FULL tell(0)=FULL count(7)=20 told(4)=2");
        Edge.edge("38. any number", "tell(MIN)=1 tell(MAX)=2 tell(0)=3 tell(-1)=4 check()=1");
        Edge.edge("38. behind check() there is room again", "20*tell(1) tell(1)=FULL check()=1 tell(1)=1 count(7)=1");
    }

    private static void check() {
        Edge.edge("39. none wait: 0", "check()=0 wearer()=0 check()=0 count(7)=0");
        Edge.edge("39. behind 1, 2, .. HOURS", "wearer()=0 tell(20)=1 check()=1 tell(21)=1 check()=0 tell(21)=1 tell(21)=2 check()=2 tell(21)=1 tell(22)=2 check()=0");
        Edge.edge("39. else 1 and the place (from 0) of the first that isn't so", "wearer()=0 tell(21)=1 tell(0)=2 tell(23)=3 tell(0)=4 check()=2 tell(0)=1 tell(22)=2 check()=1 tell(21)=1 tell(22)=2 tell(0)=3 check()=3");
        Edge.edge("39. none do then, whatever it answers", "wearer()=0 tell(0)=1 check()=1 count(7)=0 check()=0 tell(21)=1 check()=0 count(7)=0");
        Edge.edge("39. twenty of them", "wearer()=0 tell(21) tell(22) tell(23) tell(24) tell(25) tell(26) tell(27) tell(28) tell(29) tell(30) tell(31) tell(32) tell(33) tell(34) tell(35) tell(36) tell(37) tell(38) tell(39) tell(41) check()=20 count(7)=0");
        Edge.edge("39. BEARS of all together", "eye(30,9)=0 wearer()=0 wearer()=1 wear(0,0,0)=-1 tell(32)=1 tell(24)=2 tell(43)=3 tell(45)=4 check()=0 count(2)=0 ofWearer(0,2)=20");
        Edge.edge("39. BEARS of all together: nobody", "tell(0)=1 tell(0)=2 check()=0 tell(0)=1 tell(1)=2 check()=2");
        Edge.edge("39. only thought, HOUR beyond 9999, too", Edge.LAST_HOUR, "eye(0,0)=0 wearer()=0 wear(0,0,0)=-1 tell(17)=1 tell(13)=2 tell(8)=3 check()=0 count(2)=9999 ofWearer(0,2)=20");
    }

    private static void count() {
        Edge.edge("40. what 0 to 9", Edge.SOME, """
            count(0)=3 count(1)=2 count(2)=2 count(3)=8 count(4)=896 count(5)=7 count(6)=5 count(7)=3 count(8)=4 count(9)=98 count(-1)=BEYOND
            count(10)=BEYOND count(MIN)=BEYOND count(MAX)=BEYOND""");
        Edge.edge("40. 3 BEARS of all together: the most", Edge.SIX, "set(0,0,99) set(1,0,99) set(2,0,99) set(3,0,99) set(4,0,99) set(5,0,99) count(3)=594 set(5,0,0)=99 count(3)=495");
        Edge.edge("40. 4 THINGS that were SEEN by anybody: none and all", Edge.SIX, "count(4)=0 set(0,1,511)=0 count(4)=511 set(5,1,513)=0 count(4)=1023");
        Edge.edge("40. 5 EYES that are worn: none and all", Edge.EIGHT, Edge.SIX, """
            count(5)=0 wear(5,1,7)=-1 count(5)=128 wear(0,0,0)=-1 count(5)=129 wear(0,1,1)=-1 wear(1,0,2)=-1 wear(1,1,3)=-1 wear(2,0,4)=-1
            wear(2,1,5)=-1 wear(3,0,6)=-1 count(5)=255""");
        Edge.edge("40. 9 z (any number)", "seed(-1000000001)=1 count(9)=-1000000001 told(1)=0 seed(MIN)=-1000000001 count(9)=MIN");
    }

    private static void told() {
        Edge.edge("41. BEYOND: another k (counted, too)", """
            told(0)=BEYOND told(1)=1 told(6)=BEYOND told(1)=2 told(-1)=BEYOND told(1)=3 told(MIN)=BEYOND told(MAX)=BEYOND told(1)=5 told(2)=0
            told(5)=0""");
        Edge.edge("41. k 1 .. 5: each of its own", """
            dread(10,0)=BEYOND told(1)=1 trace(0)=NONE restore()=NONE told(2)=2 sheet(0,8,-1)=STATE told(3)=1 20*tell(0) tell(0)=FULL tell(0)=FULL
            tell(0)=FULL told(4)=3 eye(0,0)=0 as(0,1)=KIND told(5)=1 told(1)=1 told(2)=2 told(3)=1 told(4)=3""");
        Edge.edge("41. a FAULT is none, nor is -1, nor a number like one", """
            text(0)=-10 say'1+' text(0)=-12 lend(1)=-1 swap(1)=-1 seed(-1000000003)=1 seed(1)=-1000000003 told(1)=0 told(2)=0 told(3)=0 told(4)=0
            told(5)=0""");
    }
}
