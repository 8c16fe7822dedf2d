/** Promises 17 to 27 and what the Terms say of what is only thought: each sentence that names an edge. */
public final class ThoughtEdgesTest {
    /** An EYE that shows HOUR's rest by 12, put on at HOUR 9999: it shows 3, then 4. */
    private static final String PUT_ON_LAST = Edge.LAST_HOUR + " eye(0,0)=0 wearer()=0 wear(0,0,0)=-1";
    private static final String DREAD_ALL_NINE = """
        dread(0,9)=0 dread(1,9)=1 dread(2,9)=2 dread(3,9)=3 dread(4,9)=4 dread(5,9)=5 dread(6,9)=6 dread(7,9)=7 dread(8,9)=8
        """;

    public static void main(String[] args) {
        then();
        out();
        eyeFor();
        eyeForIsTakenFromWhereItIs();
        watch();
        whose();
        whoseWears();
        lend();
        blind();
        agree();
        agreeByHours();
        dreads();
        swap();
        swapOfBoth();
        odds();
        oddsByLowestTerms();
        Due.end("ThoughtEdgesTest");
    }

    private static void then() {
        Edge.edge("17. BEHIND n HOURS (0 to 60)", Edge.SOME, """
            wearer()=2 then(0,2,2)=20 then(1,2,2)=21 then(60,2,2)=80 then(61,2,2)=BEYOND then(-1,2,2)=BEYOND then(MIN,2,2)=BEYOND
            then(MAX,2,2)=BEYOND count(2)=2""");
        Edge.edge("17. BEHIND n HOURS: BEARS 99 at most", """
            wearer()=0 set(0,0,40)=20 then(58,0,2)=98 then(59,0,2)=99 then(60,0,2)=99 ofWearer(0,2)=40""");
        Edge.edge("17. no such WEARER", Edge.SOME, """
            then(0,1,0)=1 then(0,2,0)=BEYOND then(0,-1,0)=BEYOND then(0,MIN,0)=BEYOND then(0,MAX,0)=BEYOND""");
        Edge.edge("17. what 0 to 3", Edge.SOME, """
            then(0,0,0)=0 then(0,0,1)=2 then(0,0,2)=3 then(0,0,3)=768 then(1,0,0)=-1 then(1,0,1)=2 then(1,0,2)=20 then(1,0,3)=768
            then(0,0,4)=BEYOND then(0,0,-1)=BEYOND then(0,0,MIN)=BEYOND then(0,0,MAX)=BEYOND""");
        Edge.edge("17. only thought, HOUR beyond 9999, too", PUT_ON_LAST, """
            then(0,0,3)=0 then(1,0,3)=8 then(2,0,3)=24 then(2,0,2)=13 then(60,0,0)=-1 count(2)=9999 ofWearer(0,3)=0""");
        Edge.edge("17. only thought: 10000 is an HOUR that 4 divides", PUT_ON_LAST, """
            become(0,50)=0 change(0,0,1)=0 say'0' text(0)=1 then(1,0,2)=2 then(2,0,2)=2 then(2,0,3)=514""");
        Edge.edge("17. only thought: 10000 by 2 leaves 0", PUT_ON_LAST, "become(0,60)=0 change(0,0,5)=0 then(1,0,3)=64 then(2,0,3)=96");
    }

    private static void out() {
        Edge.edge("18. OUT: behind how many HOURS (0 to 60); NONE: not by 60", """
            eye(30,1)=0 wearer()=0 wear(0,0,0)=-1 set(0,0,60)=20 out(0)=60 out(1)=0 set(0,0,61)=60 out(0)=NONE out(1)=NONE""");
        Edge.edge("18. OUT: 1 or more", """
            eye(30,1)=0 wearer()=0 wear(0,0,0)=-1 set(0,0,1)=20 out(0)=1 set(0,0,0)=1 out(0)=1 set(0,0,2)=0 out(0)=2 out(1)=0""");
        Edge.edge("18. OUT: what was taken out ahead is not asked", """
            eye(30,5)=0 eye(30,5)=1 wearer()=0 wearer()=1 wear(0,0,0)=-1 hours(4)=1 out(0)=NONE wear(1,0,1)=-1 out(0)=5 out(1)=1""");
        Edge.edge("18. what 0, 1", Edge.SOME, "out(-1)=BEYOND out(2)=BEYOND out(MIN)=BEYOND out(MAX)=BEYOND out(0)=1 out(1)=0");
        Edge.edge("18. BEYOND. NONE.", "out(2)=BEYOND out(-1)=BEYOND out(0)=NONE out(1)=NONE wearer()=0 out(0)=NONE out(2)=BEYOND");
        Edge.edge("18. who (the least)", Edge.SIX, """
            eye(30,5)=0 eye(30,5)=1 eye(30,5)=2 wear(5,0,0)=-1 wear(2,1,1)=-1 wear(4,0,2)=-1 out(0)=4 out(1)=2 set(5,0,5)=20 out(0)=1
            out(1)=5 set(0,0,0)=20 out(1)=5""");
        Edge.edge("18. only thought, HOUR beyond 9999, too", PUT_ON_LAST, "out(0)=5 out(1)=0 count(2)=9999");
    }

    private static void eyeFor() {
        String three = "eye(30,5)=0 eye(30,2)=1 eye(30,2)=2 wearer()=0";
        Edge.edge("19. EYE FOR by n (0 to 60)", three, """
            eyeFor(0,0,0,0)=0 eyeFor(0,0,0,1)=20 eyeFor(0,0,60,0)=0 eyeFor(0,0,60,1)=76 eyeFor(0,0,61,0)=BEYOND eyeFor(0,0,-1,0)=BEYOND
            eyeFor(0,0,MIN,0)=BEYOND eyeFor(0,0,MAX,0)=BEYOND""");
        Edge.edge("19. of several the least; BEARS then", three, "eyeFor(0,0,1,0)=1 eyeFor(0,0,1,1)=18 eyeFor(0,1,3,0)=1 eyeFor(0,1,3,1)=14");
        Edge.edge("19. BEARS of 0, by 0 HOURS: the least EYE all the same", three, """
            set(0,0,0)=20 eyeFor(0,0,0,0)=0 eyeFor(0,0,0,1)=0 eyeFor(0,1,0,0)=0 eyeFor(0,0,1,0)=0 eyeFor(0,0,1,1)=20""");
        Edge.edge("19. no such WEARER", Edge.SOME, """
            eyeFor(2,0,1,0)=BEYOND eyeFor(-1,0,1,0)=BEYOND eyeFor(MIN,0,1,0)=BEYOND eyeFor(MAX,0,1,0)=BEYOND eyeFor(1,1,0,0)=0""");
        Edge.edge("19. side 0, 1", Edge.SOME, "eyeFor(0,2,1,0)=BEYOND eyeFor(0,-1,1,0)=BEYOND eyeFor(0,MIN,1,0)=BEYOND eyeFor(0,MAX,1,0)=BEYOND");
        Edge.edge("19. what 0, 1", Edge.SOME, "eyeFor(0,0,0,2)=BEYOND eyeFor(0,0,0,-1)=BEYOND eyeFor(0,0,0,MIN)=BEYOND eyeFor(0,0,0,MAX)=BEYOND eyeFor(0,0,0,1)=3");
        Edge.edge("19. NONE: there are no EYES", "wearer()=0 eyeFor(0,0,1,0)=NONE eyeFor(0,1,0,1)=NONE");
        Edge.edge("19. BEYOND. NONE.", "wearer()=0 eyeFor(1,0,1,0)=BEYOND eyeFor(0,2,1,0)=BEYOND eyeFor(0,0,61,0)=BEYOND eyeFor(0,0,1,2)=BEYOND");
        Edge.edge("19. the last WEARER, side, EYE", Edge.EIGHT, Edge.SIX, "eyeFor(5,1,60,0)=7 eyeFor(5,1,60,1)=77 eyeFor(5,1,1,0)=0 eyeFor(5,1,1,1)=20");
        Edge.edge("19. only thought, HOUR beyond 9999, too", Edge.LAST_HOUR, """
            eye(0,0)=0 eye(0,9)=1 wearer()=0 eyeFor(0,0,1,0)=1 eyeFor(0,0,1,1)=18 eyeFor(0,0,2,0)=1 eyeFor(0,0,2,1)=15 count(2)=9999""");
    }

    private static void eyeForIsTakenFromWhereItIs() {
        Edge.edge("19. taken from where it is: from its other side", """
            eye(30,9)=0 wearer()=0 wear(0,1,0)=-1 eyeFor(0,0,3,1)=20 eyeFor(0,0,4,1)=21 eyeFor(0,1,4,1)=21 ofWearer(0,1)=0""");
        Edge.edge("19. taken from where it is: from another, whose it was", """
            eye(40,0)=0 eye(30,9)=1 wearer()=0 wearer()=1 wear(0,1,1)=-1 wear(1,0,0)=-1 say'0' text(0)=1 say'l=2' text(1)=1
            eyeFor(0,0,2,0)=0 eyeFor(0,0,2,1)=20 eyeFor(0,0,3,0)=1 eyeFor(0,0,3,1)=20 ofWearer(1,0)=0""");
        Edge.edge("19. what is there is out", """
            eye(30,9)=0 eye(30,1)=1 wearer()=0 wear(0,0,0)=-1 say'1' text(1)=1 eyeFor(0,0,1,0)=1 eyeFor(0,0,1,1)=19 eyeFor(0,0,60,1)=77
            ofWearer(0,0)=0""");
        Edge.edge("19. the other side stays", """
            eye(30,9)=0 eye(30,1)=1 wearer()=0 wear(0,0,0)=-1 say'0' text(1)=1 eyeFor(0,1,1,0)=0 eyeFor(0,1,1,1)=11 say'1' text(1)=1
            eyeFor(0,1,1,0)=1 eyeFor(0,1,1,1)=19""");
    }

    private static void watch() {
        Edge.edge("20. WATCH: behind how many HOURS (1 to 60); NONE: not by 60", """
            eye(30,9)=0 eye(30,1)=1 wearer()=0 wear(0,0,0)=-1 wear(0,1,1)=-1 say'1' text(1)=1 set(0,0,59)=20 watch(0,1)=1 watch(0,9)=60
            set(0,0,60)=59 watch(0,9)=NONE""");
        Edge.edge("20. WATCH: in them, whatever was SEEN ahead", """
            eye(30,9)=0 wearer()=0 set(0,1,1023)=0 watch(0,9)=NONE wear(0,0,0)=-1 watch(0,9)=1 watch(0,0)=NONE""");
        Edge.edge("20. THINGS 0 .. 9", Edge.SOME, """
            watch(0,10)=BEYOND watch(0,-1)=BEYOND watch(0,MIN)=BEYOND watch(0,MAX)=BEYOND change(2,0,0)=8 wear(0,0,-1)=0 watch(0,0)=1
            wear(0,1,-1)=2 become(0,30)=0 change(0,0,9)=3 wear(0,0,0)=-1 watch(0,9)=1""");
        Edge.edge("20. no such WEARER", Edge.SOME, "watch(2,0)=BEYOND watch(-1,0)=BEYOND watch(MIN,0)=BEYOND watch(MAX,0)=BEYOND");
        Edge.edge("20. BEYOND. NONE.", "wearer()=0 watch(0,0)=NONE watch(1,0)=BEYOND watch(0,10)=BEYOND watch(0,9)=NONE");
        Edge.edge("20. WATCH: in the HOUR in which the EYE is out, too", "eye(30,9)=0 wearer()=0 wear(0,0,0)=-1 set(0,0,0)=20 watch(0,9)=1");
        Edge.edge("20. WATCH: by that one", "eye(30,9)=0 wearer()=0 wearer()=1 wear(0,0,0)=-1 watch(1,9)=NONE watch(0,9)=1");
        Edge.edge("20. only thought, HOUR beyond 9999, too", PUT_ON_LAST, "watch(0,3)=1 watch(0,4)=2 watch(0,7)=5 watch(0,8)=NONE count(2)=9999");
    }

    private static void whose() {
        Edge.edge("21. SHEETS 0 .. 3", Edge.SOME, """
            whose(-1,0,0)=BEYOND whose(4,0,0)=BEYOND whose(MIN,0,0)=BEYOND whose(MAX,0,0)=BEYOND sheet(3,32,0)=1 whose(3,0,0)=7""");
        Edge.edge("21. NONE: the SHEET is missing", Edge.SOME, "whose(3,0,0)=NONE whose(3,1,1)=NONE sheet(3,8,0)=1 whose(3,0,1)=3 sheet(3,0,0)=1 whose(3,0,0)=NONE");
        Edge.edge("21. BEYOND. NONE.", Edge.SOME, "whose(3,2,0)=BEYOND whose(3,-1,0)=BEYOND whose(3,0,2)=BEYOND whose(3,0,-1)=BEYOND whose(3,0,0)=NONE");
        Edge.edge("21. no such WEARER", Edge.SOME, "whose(0,2,0)=BEYOND whose(0,-1,0)=BEYOND whose(0,MIN,0)=BEYOND whose(0,MAX,0)=BEYOND");
        Edge.edge("21. what 0, 1", Edge.SOME, "whose(0,0,2)=BEYOND whose(0,0,-1)=BEYOND whose(0,0,MIN)=BEYOND whose(0,0,MAX)=BEYOND");
        Edge.edge("21. a SHEET without numbers: all EYES", Edge.EIGHT, "wearer()=0 sheet(0,8,0)=1 whose(0,0,0)=255 whose(0,0,1)=8");
        Edge.edge("21. no EYES: none", "wearer()=0 sheet(0,8,0)=1 whose(0,0,0)=0 whose(0,0,1)=0 sheet(0,8,1)=1 whose(0,0,0)=0");
        Edge.edge("21. the set: the first EYE and the last", Edge.EIGHT, """
            wearer()=0 change(0,0,7)=0 sheet(1,32,1)=1 put(1,0,7)=1 whose(1,0,0)=129 whose(1,0,1)=2 put(1,0,9)=1 whose(1,0,0)=0
            whose(1,0,1)=0""");
        Edge.edge("21. numbers that are no THINGS: none", Edge.EIGHT, """
            wearer()=0 sheet(0,32,1)=1 put(0,0,-1)=1 whose(0,0,0)=0 put(0,0,11)=1 whose(0,0,0)=0 put(0,0,MIN)=1 whose(0,0,0)=0
            put(0,0,256)=1 whose(0,0,0)=0 sheet(0,8,1)=1 put(0,0,256)=1 whose(0,0,0)=1""");
    }

    private static void whoseWears() {
        Edge.edge("21. in all HOURS of the SHEET: forty", Edge.EIGHT, """
            wearer()=0 sheet(0,8,40)=1 whose(0,0,0)=1 put(0,39,1)=1 whose(0,0,0)=0 put(0,39,0)=1 whose(0,0,0)=1 put(0,0,1)=1
            whose(0,0,0)=0""");
        Edge.edge("21. BEARS never less", "eye(30,0)=0 wearer()=0 dread(0,9)=0 set(0,0,1)=20 sheet(0,8,40)=1 whose(0,0,0)=1 ofWearer(0,2)=1");
        Edge.edge("21. BEARS never less: of 0 already", "eye(30,0)=0 wearer()=0 set(0,0,0)=20 sheet(0,8,40)=1 whose(0,0,0)=1 whose(0,0,1)=1 ofWearer(0,2)=0");
        Edge.edge("21. 10: nothing, which one with an EYE never HEEDS", """
            eye(30,0)=0 wearer()=0 sheet(0,8,2)=1 put(0,1,10)=1 whose(0,0,0)=0 set(0,0,0)=20 whose(0,0,0)=0""");
        Edge.edge("21. just one EYE on the LEFT, and none on the RIGHT", """
            eye(30,3)=0 eye(30,4)=1 wearer()=0 wear(0,1,1)=-1 say'1' text(1)=1 sheet(0,8,1)=1 put(0,0,3)=1 whose(0,0,0)=1 put(0,0,4)=1
            whose(0,0,0)=2 ofWearer(0,1)=1 ofWearer(0,0)=-1""");
        Edge.edge("21. just one EYE on the LEFT, and none on the RIGHT: of the last WEARER", Edge.EIGHT, Edge.SIX, """
            wear(5,0,3)=-1 wear(5,1,4)=-1 wear(4,1,5)=-1 say'1' text(1)=1 sheet(0,8,2)=1 put(0,0,3)=1 put(0,1,3)=1 whose(0,5,0)=8 whose(0,4,0)=8
            put(0,0,4)=1 put(0,1,4)=1 whose(0,5,0)=16 put(0,0,5)=1 put(0,1,5)=1 whose(0,5,0)=32 whose(0,1,0)=32""");
        Edge.edge("21. WORN goes on, and is held", """
            eye(40,0)=0 wearer()=0 say'0' text(0)=1 sheet(0,8,3)=1 change(0,1,9999)=0 whose(0,0,0)=1 change(0,1,0)=9999 whose(0,0,0)=0
            put(0,1,1)=1 put(0,2,2)=1 whose(0,0,0)=1 change(0,1,9999)=0 whose(0,0,0)=0""");
        Edge.edge("21. only thought, HOUR beyond 9999, too", Edge.LAST_HOUR, """
            eye(0,0)=0 wearer()=0 sheet(0,8,2)=1 put(0,0,3)=1 put(0,1,4)=1 whose(0,0,0)=1 put(0,1,3)=1 whose(0,0,0)=0 put(0,1,0)=1
            whose(0,0,0)=0 count(2)=9999""");
    }

    private static void lend() {
        Edge.edge("22. n (0 to 30)", Edge.SOME, """
            lend(-1)=BEYOND lend(31)=BEYOND lend(60)=BEYOND lend(MIN)=BEYOND lend(MAX)=BEYOND lend(0)=-1 eye(30,0)=3 lend(0)=311
            lend(30)=311""");
        Edge.edge("22. -1: nothing can be lent: no EYE, no WEARER", "lend(0)=-1 lend(30)=-1 eye(30,1)=0 lend(0)=-1 wearer()=0 lend(0)=0");
        Edge.edge("22. -1: nothing can be lent: no WEARER, or all are worn", "wearer()=0 lend(5)=-1 eye(30,1)=0 wear(0,1,0)=-1 lend(5)=-1");
        Edge.edge("22. -1: nothing can be lent: no side", """
            eye(30,1)=0 eye(30,2)=1 eye(30,3)=2 wearer()=0 wear(0,0,0)=-1 lend(1)=101 wear(0,1,1)=-1 lend(1)=-1 wearer()=1 lend(1)=210""");
        Edge.edge("22. of several the least", """
            eye(30,1)=0 eye(30,1)=1 wearer()=0 wearer()=1 lend(1)=0 wear(0,0,0)=-1 lend(0)=101 wear(0,1,1)=-1 lend(0)=-1 wear(0,0,-1)=0
            lend(0)=0 wear(0,0,0)=-1 wear(0,1,-1)=1 set(0,1,1023)=0 lend(30)=101""");
        Edge.edge("22. behind n: 0 HOURS make no more, 1 does", """
            eye(30,1)=0 eye(30,2)=1 wearer()=0 set(0,1,2)=0 lend(0)=0 lend(1)=100""");
        Edge.edge("22. SEEN by anybody: what another one has SEEN is no more", """
            eye(30,1)=0 eye(30,2)=1 wearer()=0 wearer()=1 set(1,1,2)=0 lend(1)=100 set(0,1,4)=0 lend(1)=0""");
        Edge.edge("22. the last EYE, WEARER, side", "7*eye(30,0) eye(0,0)=7", Edge.SIX, DREAD_ALL_NINE, """
            set(5,0,99)=20 wear(5,0,6)=-1 say'1' text(1)=1 lend(30)=751""");
        Edge.edge("22. only thought, HOUR beyond 9999, too", Edge.LAST_HOUR, "eye(30,3)=0 eye(0,0)=1 wearer()=0 lend(1)=0 lend(2)=100 count(2)=9999");
    }

    private static void blind() {
        Edge.edge("23. n 0 to 60", Edge.SOME, "blind(-1)=BEYOND blind(61)=BEYOND blind(MIN)=BEYOND blind(MAX)=BEYOND");
        Edge.edge("23. n 0 to 60: SEEN in the last of them", """
            eye(30,9)=0 eye(30,1)=1 wearer()=0 wear(0,0,0)=-1 wear(0,1,1)=-1 say'1' text(1)=1 set(0,0,59)=20 blind(0)=1023 blind(1)=1021
            blind(59)=1021 blind(60)=509 set(0,0,60)=59 blind(60)=1021""");
        Edge.edge("23. nobody is there: all THINGS", "blind(0)=1023 blind(60)=1023 wearer()=0 blind(60)=1023");
        Edge.edge("23. all were SEEN: none", "wearer()=0 set(0,1,1023)=0 blind(0)=0 blind(60)=0 set(0,1,1022)=1023 blind(60)=1 set(0,1,511)=1022 blind(0)=512");
        Edge.edge("23. nobody: of all WEARERS", Edge.SIX, "set(0,1,1)=0 set(5,1,512)=0 blind(0)=510");
        Edge.edge("23. only thought, HOUR beyond 9999, too", PUT_ON_LAST, "blind(1)=1015 blind(2)=999 count(2)=9999");
    }

    private static void agree() {
        Edge.edge("24. what 0, 1", Edge.SOME, "agree(-1)=BEYOND agree(2)=BEYOND agree(MIN)=BEYOND agree(MAX)=BEYOND");
        Edge.edge("24. NONE: nobody HEEDS anything in these", "agree(0)=NONE agree(1)=NONE wearer()=0 eye(30,1)=0 agree(0)=NONE wear(0,1,0)=-1 agree(0)=0 agree(1)=1");
        Edge.edge("24. BEYOND. NONE.", "agree(2)=BEYOND agree(-1)=BEYOND agree(0)=NONE");
        Edge.edge("24. most: all six", Edge.SIX, """
            6*eye(30,3) wear(0,0,0)=-1 wear(1,1,1)=-1 wear(2,0,2)=-1 wear(3,1,3)=-1 wear(4,0,4)=-1 wear(5,1,5)=-1 agree(0)=0 agree(1)=6""");
        Edge.edge("24. most: of two THINGS that with more", Edge.SIX, """
            eye(30,4)=0 eye(30,4)=1 eye(30,0)=2 eye(30,0)=3 eye(30,0)=4 wear(0,0,0)=-1 wear(1,0,1)=-1 wear(2,0,2)=-1 wear(3,0,3)=-1
            wear(4,0,4)=-1 agree(1)=3 change(2,0,9)=0 change(3,0,9)=0 change(4,0,9)=0 agree(1)=3 change(4,0,8)=9 agree(1)=2""");
        Edge.edge("24. nothing is no THING that is HEEDED", Edge.SIX, "eye(30,0)=0 wear(3,0,0)=-1 agree(1)=1 agree(0)=0");
        Edge.edge("24. what is HEEDED as that HOUR goes by: though it is out in it", """
            eye(30,3)=0 wearer()=0 wear(0,0,0)=-1 set(0,0,0)=20 agree(0)=0 agree(1)=1""");
    }

    private static void agreeByHours() {
        String outBehind = """
            eye(30,3)=0 eye(30,5)=1 eye(30,3)=2 wearer()=0 wearer()=1 dread(3,0)=3 dread(5,1)=5 say'0' text(1)=1 wear(0,0,0)=-1
            wear(1,0,1)=-1 wear(1,1,2)=-1
            """;
        Edge.edge("24. the HOUR of the next 12 (0 to 11 from now on)", outBehind, """
            set(1,0,11)=20 agree(0)=11 agree(1)=2 set(1,0,12)=11 agree(0)=0 agree(1)=1 set(1,0,1)=12 agree(0)=1 agree(1)=2""");
        Edge.edge("24. from now on", outBehind, "set(1,0,11)=20 hours(5)=0 agree(0)=6 agree(1)=2 hours(6)=1 agree(0)=0 agree(1)=2");
        Edge.edge("24. of several the first", """
            eye(60,2)=0 eye(30,3)=1 wearer()=0 wearer()=1 wear(0,0,0)=-1 wear(1,0,1)=-1 agree(0)=1 agree(1)=2 hours(1)=0 agree(0)=0
            agree(1)=2""");
        Edge.edge("24. only thought, HOUR beyond 9999, too", PUT_ON_LAST, """
            eye(30,4)=1 wearer()=1 wear(1,0,1)=-1 agree(0)=1 agree(1)=2 count(2)=9999""");
    }

    private static void dreads() {
        String one = "eye(30,9)=0 wearer()=0 wear(0,0,0)=-1";
        Edge.edge("25. n HOURS (0 to 60)", Edge.SOME, "dreads(-1)=BEYOND dreads(61)=BEYOND dreads(MIN)=BEYOND dreads(MAX)=BEYOND dreads(0)=0");
        Edge.edge("25. n HOURS (0 to 60): the last of them", "eye(30,1)=0 wearer()=0 wear(0,0,0)=-1 set(0,0,99)=20 dreads(0)=0 dreads(1)=1 dreads(59)=59 dreads(60)=60");
        Edge.edge("25. as far as they were", one, "dreads(2)=18 dreads(3)=20 dreads(60)=20 set(0,0,4)=20 dreads(1)=4 dreads(60)=4 set(0,0,0)=4 dreads(60)=0");
        Edge.edge("25. as far as they were: 20 again, and less again", one, "eye(30,9)=1 wear(0,1,1)=-1 say'0' text(1)=1 dreads(3)=20 dreads(4)=29 dreads(6)=40 dreads(60)=40");
        Edge.edge("25. BEARS of all", one, "eye(30,4)=1 wearer()=1 wear(1,1,1)=-1 dreads(1)=13 dreads(60)=40");
        Edge.edge("25. what HOURS with nothing give not counted", one, "wearer()=1 dreads(1)=9 dreads(60)=20 wear(0,0,-1)=0 dreads(60)=0");
        Edge.edge("25. nobody: 0", "dreads(0)=0 dreads(60)=0");
        Edge.edge("25. only thought, HOUR beyond 9999, too", PUT_ON_LAST, "dreads(1)=3 dreads(2)=7 dreads(60)=20 count(2)=9999 ofWearer(0,2)=20");
    }

    private static void swap() {
        Edge.edge("26. n (0 to 30)", Edge.SOME, "swap(-1)=BEYOND swap(31)=BEYOND swap(60)=BEYOND swap(MIN)=BEYOND swap(MAX)=BEYOND swap(0)=-1");
        Edge.edge("26. n (0 to 30): in the last of them", """
            eye(30,9)=0 eye(30,1)=1 wearer()=0 wearer()=1 wear(0,0,0)=-1 wear(0,1,1)=-1 say'1' text(1)=1 set(0,0,99)=20 set(1,0,29)=20
            swap(29)=-1 swap(30)=1 set(1,0,30)=29 swap(30)=-1""");
        Edge.edge("26. -1: none: fewer than two WEARERS", "swap(30)=-1 eye(0,0)=0 wearer()=0 wear(0,0,0)=-1 swap(30)=-1");
        Edge.edge("26. more than else: as many are not more", "eye(30,1)=0 eye(30,2)=1 wearer()=0 wearer()=1 wear(0,0,0)=-1 wear(1,0,1)=-1 swap(1)=-1 swap(30)=-1");
        Edge.edge("26. of several the first", DREAD_ALL_NINE, """
            eye(0,0)=0 wearer()=0 wearer()=1 wearer()=2 wear(0,0,0)=-1 set(1,0,99)=20 set(2,0,99)=20 swap(3)=-1 swap(4)=1 wear(1,0,0)=-1
            set(1,0,20)=99 swap(4)=12 set(0,0,99)=20 swap(4)=1""");
        Edge.edge("26. and most", DREAD_ALL_NINE, """
            eye(0,0)=0 wearer()=0 wearer()=1 wearer()=2 wear(0,0,0)=-1 set(1,0,30)=20 set(2,0,50)=20 swap(30)=2 set(1,0,50)=30 swap(30)=1""");
        Edge.edge("26. 10 times the lesser, and the other: the last two", DREAD_ALL_NINE, Edge.SIX, """
            eye(0,0)=0 wear(4,0,0)=-1 set(0,0,1)=20 set(1,0,1)=20 set(2,0,1)=20 set(3,0,1)=20 set(5,0,99)=20 swap(30)=45 wear(5,1,0)=-1
            set(5,0,20)=99 set(4,0,99)=20 swap(30)=45""");
        Edge.edge("26. only thought, HOUR beyond 9999, too", PUT_ON_LAST, "wearer()=1 set(0,0,3)=20 swap(1)=-1 swap(2)=1 count(2)=9999");
    }

    private static void swapOfBoth() {
        Edge.edge("26. did they change both eyes", """
            eye(30,1)=0 eye(30,2)=1 eye(30,5)=2 eye(30,1)=3 wearer()=0 wearer()=1 say'l>r' text(1)=1 wear(0,0,0)=-1 wear(0,1,1)=-1
            wear(1,0,2)=-1 wear(1,1,3)=-1 blind(1)=1021 swap(1)=-1""");
        Edge.edge("26. did they change both eyes: with one who has none, each on its side", """
            eye(30,9)=0 eye(30,1)=1 wearer()=0 wearer()=1 say'1' text(1)=1 wear(0,0,0)=-1 wear(0,1,1)=-1 set(1,0,1)=20 swap(1)=-1
            swap(2)=1""");
    }

    private static void odds() {
        Edge.edge("27. n 0 to 60", Edge.SOME, """
            odds(0,0,-1,0)=BEYOND odds(0,0,61,0)=BEYOND odds(0,0,MIN,0)=BEYOND odds(0,0,MAX,0)=BEYOND set(0,1,0)=768 odds(0,9,0,0)=0
            odds(0,9,0,1)=1""");
        Edge.edge("27. THINGS 0 .. 9", Edge.SOME, "odds(0,-1,0,0)=BEYOND odds(0,10,0,0)=BEYOND odds(0,MIN,0,0)=BEYOND odds(0,MAX,0,0)=BEYOND");
        Edge.edge("27. no such WEARER", Edge.SOME, "odds(2,0,0,0)=BEYOND odds(-1,0,0,0)=BEYOND odds(MIN,0,0,0)=BEYOND odds(MAX,0,0,0)=BEYOND");
        Edge.edge("27. part 0, 1", Edge.SOME, "odds(0,0,0,-1)=BEYOND odds(0,0,0,2)=BEYOND odds(0,0,0,MIN)=BEYOND odds(0,0,0,MAX)=BEYOND");
        Edge.edge("27. NONE: there are no EYES", "wearer()=0 odds(0,0,0,0)=NONE odds(0,9,60,1)=NONE");
        Edge.edge("27. BEYOND. NONE.", "wearer()=0 odds(1,0,0,0)=BEYOND odds(0,10,0,0)=BEYOND odds(0,0,61,0)=BEYOND odds(0,0,0,2)=BEYOND odds(0,0,0,0)=NONE");
        Edge.edge("27. behind n: 0 HOURS show nothing; what was SEEN ahead it has SEEN", """
            eye(30,0)=0 wearer()=0 odds(0,0,0,0)=0 odds(0,0,0,1)=1 odds(0,0,1,0)=1 odds(0,0,1,1)=1 set(0,1,1)=0 odds(0,0,0,0)=1
            odds(0,0,0,1)=1 odds(0,9,60,0)=0 set(0,1,512)=1 odds(0,9,0,0)=1""");
        Edge.edge("27. on the LEFT alone: its own ones are out", """
            eye(30,3)=0 eye(30,5)=1 wearer()=0 wear(0,1,1)=-1 say'1' text(1)=1 odds(0,5,1,0)=1 odds(0,5,1,1)=2 odds(0,3,1,0)=1 odds(0,3,1,1)=2
            ofWearer(0,1)=1""");
        Edge.edge("27. on the LEFT alone: its own ones are out, of the last WEARER", Edge.EIGHT, Edge.SIX, """
            wear(5,0,3)=-1 wear(5,1,4)=-1 wear(4,0,5)=-1 say'1' text(1)=1 odds(5,4,9,0)=1 odds(5,4,9,1)=8 odds(5,5,1,0)=1 odds(5,5,1,1)=8
            odds(4,4,1,1)=8 odds(5,9,60,0)=0 odds(5,9,60,1)=1""");
        Edge.edge("27. taken from where it is", """
            eye(30,3)=0 wearer()=0 wearer()=1 wear(1,0,0)=-1 odds(0,3,1,0)=1 odds(0,3,1,1)=1 ofWearer(1,0)=0""");
        Edge.edge("27. only thought, HOUR beyond 9999, too", Edge.LAST_HOUR, """
            eye(0,0)=0 eye(30,0)=1 wearer()=0 odds(0,4,1,0)=0 odds(0,4,1,1)=1 odds(0,4,2,0)=1 odds(0,4,2,1)=2 count(2)=9999""");
    }

    private static void oddsByLowestTerms() {
        Edge.edge("27. in lowest terms (0 is 0 by 1), of eight", Edge.EIGHT, """
            wearer()=0 odds(0,9,1,0)=0 odds(0,9,1,1)=1 odds(0,0,1,0)=1 odds(0,0,1,1)=8 change(1,0,0)=1 odds(0,0,1,0)=1 odds(0,0,1,1)=4
            change(2,0,0)=2 odds(0,0,1,0)=3 odds(0,0,1,1)=8 change(3,0,0)=3 odds(0,0,1,0)=1 odds(0,0,1,1)=2 change(4,0,0)=4
            change(5,0,0)=5 odds(0,0,1,0)=3 odds(0,0,1,1)=4 change(6,0,0)=6 odds(0,0,1,0)=7 odds(0,0,1,1)=8 change(7,0,0)=7
            odds(0,0,1,0)=1 odds(0,0,1,1)=1""");
        Edge.edge("27. in lowest terms, of six", """
            eye(30,1)=0 eye(30,1)=1 eye(30,1)=2 eye(30,2)=3 eye(30,2)=4 eye(30,3)=5 wearer()=0 odds(0,1,1,0)=1 odds(0,1,1,1)=2
            odds(0,2,1,0)=1 odds(0,2,1,1)=3 odds(0,3,1,0)=1 odds(0,3,1,1)=6 change(5,0,2)=3 change(2,0,2)=1 odds(0,2,1,0)=2 odds(0,2,1,1)=3""");
        Edge.edge("27. in lowest terms, of one and of seven", """
            eye(30,4)=0 wearer()=0 odds(0,4,1,0)=1 odds(0,4,1,1)=1 6*eye(30,5) odds(0,4,1,0)=1 odds(0,4,1,1)=7 odds(0,5,1,0)=6
            odds(0,5,1,1)=7""");
    }
}
