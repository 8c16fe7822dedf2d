/** Promises 1 to 11 and what the Terms say of things, eyes, wearers: each sentence that names an edge. */
public final class ThingsEdgesTest {
    public static void main(String[] args) {
        aNewObject();
        things();
        eyes();
        whatAnEyeIs();
        whatAnEyeShows();
        whatAnEyeShowsByHours();
        howHeavyAnEyeIs();
        change();
        wearers();
        whoHeedsWhat();
        set();
        wear();
        become();
        as();
        Due.end("ThingsEdgesTest");
    }

    private static void aNewObject() {
        Edge.edge("1. All as at first", "count(2)=0 count(3)=0 count(4)=0 count(5)=0 count(6)=0 count(7)=0 count(8)=0 count(9)=1");
        Edge.edge("1. no EYES, WEARERS", "count(0)=0 count(1)=0");
        Edge.edge("1. what told() tells, at first", "told(1)=0 told(2)=0 told(3)=0 told(4)=0 told(5)=0");
        Edge.edge("no EYE is there yet", """
            wearer()=0 ofEye(0,0)=BEYOND change(0,0,0)=BEYOND wear(0,0,0)=BEYOND wear(0,0,-1)=-1 become(0,0)=BEYOND as(0,0)=BEYOND
            voice(0,0,0)=BEYOND""");
        Edge.edge("no WEARER is there yet", """
            eye(0,0)=0 sheet(0,8,0)=1 ofWearer(0,0)=BEYOND set(0,0,0)=BEYOND wear(0,0,0)=BEYOND then(0,0,0)=BEYOND eyeFor(0,0,0,0)=BEYOND
            watch(0,0)=BEYOND whose(0,0,0)=BEYOND odds(0,0,0,0)=BEYOND""");
        Edge.edge("SHEETS are missing, as at first", """
            wearer()=0 put(0,0,0)=NONE put(3,0,0)=NONE move(0,0,1,0,0)=NONE bases(0)=NONE judge(3)=NONE whose(0,0,0)=NONE""");
    }

    private static void things() {
        Edge.edge("2. THINGS 0 .. 9", Edge.SOME, """
            dread(0,5)=0 dread(9,5)=9 dread(-1,5)=BEYOND dread(10,5)=BEYOND dread(MIN,5)=BEYOND dread(MAX,5)=BEYOND dread(0,0)=5
            dread(9,0)=5""");
        Edge.edge("2. DREAD 0 to 9", Edge.SOME, """
            dread(5,9)=5 dread(5,10)=BEYOND dread(5,MAX)=BEYOND dread(5,0)=9 dread(5,-1)=BEYOND dread(5,MIN)=BEYOND dread(5,5)=0""");
        Edge.edge("DREAD of thing t is t at first", """
            dread(0,9)=0 dread(1,8)=1 dread(2,7)=2 dread(3,6)=3 dread(4,5)=4 dread(5,4)=5 dread(6,3)=6 dread(7,2)=7 dread(8,1)=8
            dread(9,0)=9""");
        Edge.edge("2. one THING's alone", """
            dread(4,9)=4 dread(3,3)=3 dread(5,5)=5 dread(4,4)=9""");
    }

    private static void eyes() {
        Edge.edge("3. km: KINDS 0 to 6", Edge.SOME, """
            eye(0,0)=3 ofEye(3,0)=0 eye(60,0)=4 ofEye(4,0)=6 eye(69,0)=5 ofEye(5,0)=6 eye(70,0)=BEYOND eye(-1,0)=BEYOND eye(-10,0)=BEYOND
            eye(MIN,0)=BEYOND eye(MAX,0)=BEYOND count(0)=6""");
        Edge.edge("3. km: m 0 to 9", """
            eye(10,0)=0 ofEye(0,0)=1 ofEye(0,1)=0 eye(9,0)=1 ofEye(1,0)=0 ofEye(1,1)=9 eye(19,0)=2 ofEye(2,0)=1 ofEye(2,1)=9""");
        Edge.edge("3. BASE 0 to 9", Edge.SOME, """
            eye(0,0)=3 ofEye(3,2)=0 eye(0,9)=4 ofEye(4,2)=9 eye(0,-1)=BEYOND eye(0,10)=BEYOND eye(0,MIN)=BEYOND eye(0,MAX)=BEYOND
            count(0)=5""");
        Edge.edge("3. EYES 0, 1, .. (at most 8)", Edge.SOME, """
            eye(30,0)=3 eye(30,0)=4 eye(30,0)=5 eye(30,0)=6 eye(30,0)=7 eye(30,0)=FULL count(0)=8 eye(69,9)=FULL count(0)=8""");
        Edge.edge("3. BEYOND. FULL.", Edge.EIGHT, "eye(70,0)=BEYOND eye(-1,0)=BEYOND eye(0,10)=BEYOND eye(0,-1)=BEYOND eye(0,0)=FULL");
        Edge.edge("WORN is 0 at first, and nobody wears it", Edge.SOME, "hours(3) eye(45,6)=3 ofEye(3,3)=0 ofEye(3,4)=-1");
    }

    private static void whatAnEyeIs() {
        Edge.edge("4. no such EYE", Edge.SOME, """
            ofEye(0,0)=0 ofEye(2,0)=6 ofEye(3,0)=BEYOND ofEye(-1,0)=BEYOND ofEye(8,0)=BEYOND ofEye(MIN,0)=BEYOND ofEye(MAX,0)=BEYOND""");
        Edge.edge("4. no such EYE of eight", Edge.EIGHT, "ofEye(7,2)=7 ofEye(8,2)=BEYOND ofEye(-1,2)=BEYOND");
        Edge.edge("4. what 0 to 6", Edge.SOME, """
            ofEye(2,0)=6 ofEye(2,1)=2 ofEye(2,2)=8 ofEye(2,3)=2 ofEye(2,4)=1 ofEye(2,5)=8 ofEye(2,6)=1 ofEye(2,7)=BEYOND
            ofEye(2,-1)=BEYOND ofEye(2,MIN)=BEYOND ofEye(2,MAX)=BEYOND""");
        Edge.edge("4. who wears it: 10 times who, and the side; -1: nobody", Edge.EIGHT, Edge.SIX, """
            ofEye(0,4)=-1 wear(0,0,0)=-1 ofEye(0,4)=0 wear(0,1,1)=-1 ofEye(1,4)=1 wear(5,0,6)=-1 ofEye(6,4)=50 wear(5,1,7)=-1
            ofEye(7,4)=51 ofEye(2,4)=-1 wear(5,1,-1)=7 ofEye(7,4)=-1""");
    }

    private static void whatAnEyeShows() {
        Edge.edge("EYE shows v, its rest by 10 at the end", """
            eye(5,5)=0 say'9' text(0)=1 ofEye(0,5)=9 say'10' text(0)=1 ofEye(0,5)=0 say'99' text(0)=1 ofEye(0,5)=9
            say'100' text(0)=1 ofEye(0,5)=9 say'0' text(0)=1 ofEye(0,5)=0 say'0-1' text(0)=1 ofEye(0,5)=0""");
        Edge.edge("PLAIN shows v, and m", """
            eye(10,5)=0 eye(11,5)=1 eye(19,5)=2 say'0' text(0)=1 ofEye(0,5)=0 ofEye(1,5)=1 ofEye(2,5)=9
            say'9' text(0)=1 ofEye(0,5)=9 ofEye(1,5)=0 ofEye(2,5)=8 say'99' text(0)=1 ofEye(0,5)=9 ofEye(1,5)=0 ofEye(2,5)=8""");
        Edge.edge("GENERAL shows 9 less the rest of v by 10", """
            eye(25,5)=0 say'0' text(0)=1 ofEye(0,5)=9 say'9' text(0)=1 ofEye(0,5)=0 say'10' text(0)=1 ofEye(0,5)=9
            say'19' text(0)=1 ofEye(0,5)=0 say'99' text(0)=1 ofEye(0,5)=0 say'92' text(0)=1 ofEye(0,5)=7""");
        Edge.edge("HARBOUR shows BASE", """
            eye(39,0)=0 eye(39,9)=1 say'55' text(0)=1 ofEye(0,5)=0 ofEye(1,5)=9 hours(1)=0 ofEye(0,5)=0 ofEye(1,5)=9""");
        Edge.edge("ALLEY shows as PLAIN, and the rest of WORN by 3", """
            eye(40,0)=0 say'7' text(0)=1 ofEye(0,5)=7 change(0,1,1)=0 ofEye(0,5)=8 change(0,1,2)=1 ofEye(0,5)=9 change(0,1,3)=2
            ofEye(0,5)=7 change(0,1,9998)=3 ofEye(0,5)=9 change(0,1,9999)=9998 ofEye(0,5)=7 become(0,49)=4 ofEye(0,5)=6
            change(0,1,5)=9999 ofEye(0,5)=8 become(0,41)=4 ofEye(0,5)=0""");
        Edge.edge("NAMES of SHOWN: b BASE, m m", """
            eye(7,4)=0 say'b' text(0)=1 ofEye(0,5)=4 say'm' text(0)=1 ofEye(0,5)=7 say'h' text(0)=1 ofEye(0,5)=0""");
    }

    private static void whatAnEyeShowsByHours() {
        Edge.edge("SHUT shows BASE in HOURS that 4 divides, else as GENERAL", """
            eye(50,3)=0 say'1' text(0)=1 ofEye(0,5)=3 hours(1)=0 ofEye(0,5)=8 hours(1)=0 ofEye(0,5)=8 hours(1)=0 ofEye(0,5)=8
            hours(1)=0 ofEye(0,5)=3 hours(1)=0 ofEye(0,5)=8 hours(3)=0 ofEye(0,5)=3 hours(4)=0 ofEye(0,5)=3""");
        Edge.edge("MATCHED shows as HARBOUR, and the rest of HOUR by 2; its rest by 10, at the end", """
            eye(65,9)=0 ofEye(0,5)=9 hours(1)=0 ofEye(0,5)=0 hours(1)=0 ofEye(0,5)=9 change(0,0,0)=9 ofEye(0,5)=0 hours(1)=0
            ofEye(0,5)=1""");
        Edge.edge("h is the rest of HOUR by 12", """
            eye(0,0)=0 say'h>10' text(0)=1 ofEye(0,5)=0 hours(10)=0 ofEye(0,5)=0 hours(1)=0 ofEye(0,5)=1 hours(1)=0 ofEye(0,5)=0
            say'h' text(0)=1 ofEye(0,5)=0 hours(9)=0 ofEye(0,5)=9 hours(2)=0 ofEye(0,5)=1 hours(1)=0 ofEye(0,5)=0""");
        Edge.edge("without a TEXT b+h", """
            eye(0,0)=0 eye(0,9)=1 ofEye(0,5)=0 ofEye(1,5)=9 hours(11)=0 ofEye(0,5)=1 ofEye(1,5)=0 hours(1)=0 ofEye(0,5)=0 ofEye(1,5)=9""");
        Edge.edge("HOUR 9999, the last", Edge.LAST_HOUR, """
            eye(0,0)=0 ofEye(0,5)=3 eye(60,0)=1 ofEye(1,5)=1 eye(50,0)=2 ofEye(2,5)=6 ofEye(2,6)=2""");
    }

    private static void howHeavyAnEyeIs() {
        Edge.edge("HEAVY: EYE 1, PLAIN, HARBOUR, MATCHED as the KIND above, GENERAL 2, ALLEY 0", """
            eye(0,0)=0 ofEye(0,6)=1 become(0,10)=0 ofEye(0,6)=1 become(0,20)=1 ofEye(0,6)=2 become(0,30)=2 ofEye(0,6)=1
            become(0,40)=3 ofEye(0,6)=0 become(0,60)=4 ofEye(0,6)=1 hours(1)=0 ofEye(0,6)=1 become(0,20)=6 ofEye(0,6)=2
            become(0,40)=2 ofEye(0,6)=0""");
        Edge.edge("HEAVY of SHUT: as GENERAL, 0 in HOURS that 4 divides", """
            eye(50,0)=0 ofEye(0,6)=0 hours(1)=0 ofEye(0,6)=2 hours(1)=0 ofEye(0,6)=2 hours(1)=0 ofEye(0,6)=2 hours(1)=0 ofEye(0,6)=0
            hours(1)=0 ofEye(0,6)=2 hours(3)=0 ofEye(0,6)=0 hours(4)=0 ofEye(0,6)=0""");
    }

    private static void change() {
        Edge.edge("5. BASE 0 to 9", Edge.SOME, """
            change(1,0,0)=6 change(1,0,9)=0 change(1,0,10)=BEYOND change(1,0,-1)=BEYOND change(1,0,MIN)=BEYOND change(1,0,MAX)=BEYOND
            change(1,0,9999)=BEYOND ofEye(1,2)=9""");
        Edge.edge("5. WORN 0 to 9999", Edge.SOME, """
            change(1,1,9999)=2 change(1,1,10000)=BEYOND change(1,1,-1)=BEYOND change(1,1,MIN)=BEYOND change(1,1,MAX)=BEYOND
            change(1,1,0)=9999 ofEye(1,3)=0""");
        Edge.edge("5. what 0, 1", Edge.SOME, """
            change(1,-1,0)=BEYOND change(1,2,0)=BEYOND change(1,MIN,0)=BEYOND change(1,MAX,0)=BEYOND""");
        Edge.edge("5. no such EYE", Edge.SOME, """
            change(2,0,1)=8 change(3,0,1)=BEYOND change(3,1,1)=BEYOND change(-1,0,1)=BEYOND change(-1,1,1)=BEYOND change(MIN,0,1)=BEYOND
            change(MAX,1,1)=BEYOND change(0,0,1)=3""");
    }

    private static void wearers() {
        Edge.edge("6. WEARERS 0, 1, .. (at most 6)", Edge.SOME, """
            wearer()=2 wearer()=3 wearer()=4 wearer()=5 wearer()=FULL count(1)=6 wearer()=FULL told(4)=2""");
        Edge.edge("a WEARER has no eyes, BEARS 20, SEEN nothing at first", Edge.SOME, """
            wearer()=2 ofWearer(2,0)=-1 ofWearer(2,1)=-1 ofWearer(2,2)=20 ofWearer(2,3)=0 ofWearer(2,4)=-1""");
        Edge.edge("7. no such WEARER", Edge.SOME, """
            ofWearer(0,0)=0 ofWearer(1,0)=1 ofWearer(2,0)=BEYOND ofWearer(-1,0)=BEYOND ofWearer(6,0)=BEYOND ofWearer(MIN,0)=BEYOND
            ofWearer(MAX,0)=BEYOND""");
        Edge.edge("7. no such WEARER of six", Edge.SIX, "ofWearer(5,2)=20 ofWearer(6,2)=BEYOND ofWearer(-1,2)=BEYOND");
        Edge.edge("7. what 0 to 4", Edge.SOME, """
            ofWearer(0,0)=0 ofWearer(0,1)=2 ofWearer(1,1)=-1 ofWearer(1,4)=1 ofWearer(0,5)=BEYOND ofWearer(0,-1)=BEYOND
            ofWearer(0,MIN)=BEYOND ofWearer(0,MAX)=BEYOND""");
    }

    private static void whoHeedsWhat() {
        String both = "eye(30,1)=0 eye(30,2)=1 wearer()=0 wear(0,0,0)=-1 wear(0,1,1)=-1";
        Edge.edge("HEEDS with both eyes the RIGHT one, if the other TEXT gives other than 0, else the LEFT one", both, """
            say'1' text(1)=1 ofWearer(0,4)=1 say'0' text(1)=1 ofWearer(0,4)=0 say'9' text(1)=1 ofWearer(0,4)=1
            say'0-1' text(1)=1 ofWearer(0,4)=0""");
        Edge.edge("RIGHT without a TEXT h%2", both, """
            dread(1,0)=1 dread(2,0)=2 ofWearer(0,4)=0 hours(1)=0 ofWearer(0,4)=1 hours(1)=0 ofWearer(0,4)=0 hours(9)=0 ofWearer(0,4)=1
            hours(1)=0 ofWearer(0,4)=0""");
        Edge.edge("NAMES of RIGHT: l what the LEFT one shows, r what the RIGHT one does", both, """
            say'l=1&r=2' text(1)=1 ofWearer(0,4)=1 say'l=2' text(1)=1 ofWearer(0,4)=0 say'r=1' text(1)=1 ofWearer(0,4)=0
            change(0,0,2)=1 change(1,0,1)=2 say'l>r' text(1)=1 ofWearer(0,4)=1 say'l<r' text(1)=1 ofWearer(0,4)=0""");
        Edge.edge("NAMES of RIGHT: h the rest of HOUR by 12", both, """
            dread(1,0)=1 say'h=11' text(1)=1 hours(11)=0 ofWearer(0,4)=1 hours(1)=0 ofWearer(0,4)=0 say'h=0' text(1)=1
            ofWearer(0,4)=1 say'h=12' text(1)=1 ofWearer(0,4)=0""");
        Edge.edge("HEEDS with one that one", both, """
            say'1' text(1)=1 wear(0,1,-1)=1 ofWearer(0,4)=0 say'0' text(1)=1 wear(0,1,1)=-1 wear(0,0,-1)=0 ofWearer(0,4)=1""");
        Edge.edge("HEEDS with none nothing", both, "wear(0,0,-1)=0 wear(0,1,-1)=1 ofWearer(0,4)=-1");
    }

    private static void set() {
        Edge.edge("8. BEARS 0 to 99", Edge.SOME, """
            set(1,0,0) set(1,0,99)=0 set(1,0,100)=BEYOND set(1,0,-1)=BEYOND set(1,0,MIN)=BEYOND set(1,0,MAX)=BEYOND set(1,0,1023)=BEYOND
            set(1,0,20)=99 ofWearer(1,2)=20""");
        Edge.edge("8. SEEN 0 to 1023", Edge.SOME, """
            set(1,1,0) set(1,1,1023)=0 set(1,1,1024)=BEYOND set(1,1,-1)=BEYOND set(1,1,MIN)=BEYOND set(1,1,MAX)=BEYOND set(1,1,100)=1023
            ofWearer(1,3)=100""");
        Edge.edge("8. what 0, 1", Edge.SOME, "set(1,-1,0)=BEYOND set(1,2,0)=BEYOND set(1,MIN,0)=BEYOND set(1,MAX,0)=BEYOND");
        Edge.edge("8. no such WEARER", Edge.SOME, """
            set(2,0,1)=BEYOND set(2,1,1)=BEYOND set(-1,0,1)=BEYOND set(-1,1,1)=BEYOND set(MIN,0,1)=BEYOND set(MAX,1,1)=BEYOND
            set(1,0,1) ofWearer(1,2)=1""");
    }

    private static void wear() {
        Edge.edge("9. an EYE (-1: none)", Edge.SOME, """
            wear(1,1,-1)=-1 wear(1,1,-2)=BEYOND wear(1,1,3)=BEYOND wear(1,1,MIN)=BEYOND wear(1,1,MAX)=BEYOND wear(1,0,-1)=1
            wear(1,0,-1)=-1 count(5)=5""");
        Edge.edge("9. side 0 LEFT, 1 RIGHT", Edge.SOME, """
            wear(1,-1,0)=BEYOND wear(1,2,0)=BEYOND wear(1,MIN,0)=BEYOND wear(1,MAX,0)=BEYOND wear(1,2,-1)=BEYOND wear(1,1,0)=-1
            ofWearer(1,1)=0 wear(1,0,2)=1 ofWearer(1,0)=2""");
        Edge.edge("9. no such WEARER", Edge.SOME, """
            wear(-1,0,0)=BEYOND wear(2,0,0)=BEYOND wear(MIN,0,0)=BEYOND wear(MAX,0,0)=BEYOND wear(2,0,-1)=BEYOND""");
        Edge.edge("9. from where it is: an EYE is with one WEARER on one side at most", Edge.SOME, """
            wear(1,1,0)=-1 ofWearer(0,0)=-1 ofWearer(1,1)=0 ofEye(0,4)=11 wear(1,0,0)=1 ofWearer(1,1)=-1 ofWearer(1,0)=0 ofEye(0,4)=10
            count(5)=5""");
        Edge.edge("9. what was there is out: that one (-1)", Edge.SOME, """
            eye(30,1)=3 wear(0,0,3)=0 ofEye(0,4)=-1 ofEye(3,4)=0 wear(1,1,3)=-1 ofEye(3,4)=11 wear(1,1,2)=3 ofEye(3,4)=-1 ofEye(2,4)=11
            ofWearer(0,1)=-1""");
        Edge.edge("9. what was there, if it is that very one", Edge.SOME, "wear(0,1,2)=2 ofWearer(0,1)=2 ofEye(2,4)=1");
        Edge.edge("9. the last of each", Edge.EIGHT, Edge.SIX, "wear(5,1,7)=-1 ofWearer(5,1)=7 wear(6,1,7)=BEYOND wear(5,1,8)=BEYOND count(5)=128");
    }

    private static void become() {
        Edge.edge("10. km: KINDS 0 to 6, m 0 to 9", Edge.SOME, """
            become(1,69)=1 ofEye(1,0)=6 ofEye(1,1)=9 become(1,70)=BEYOND become(1,-1)=BEYOND become(1,MIN)=BEYOND become(1,MAX)=BEYOND
            become(1,0)=6 ofEye(1,0)=0 ofEye(1,1)=0 become(1,10)=0 ofEye(1,0)=1 ofEye(1,1)=0 become(1,9)=1 ofEye(1,0)=0 ofEye(1,1)=9""");
        Edge.edge("10. no such EYE", Edge.SOME, """
            become(3,0)=BEYOND become(-1,0)=BEYOND become(MIN,0)=BEYOND become(MAX,0)=BEYOND become(2,0)=6""");
        Edge.edge("10. BASE, WORN and who wears it are as they were", Edge.SOME, """
            become(1,45)=1 ofEye(1,2)=6 ofEye(1,3)=2 ofEye(1,4)=10""");
    }

    private static void as() {
        Edge.edge("11. KIND: it isn't of that KIND, nor of one under it", """
            eye(1,0)=0 as(0,0)=1 as(0,1)=KIND as(0,2)=KIND as(0,3)=KIND as(0,4)=KIND as(0,5)=KIND as(0,6)=KIND
            become(0,12)=0 as(0,0)=2 as(0,1)=2 as(0,2)=KIND as(0,3)=KIND as(0,4)=KIND as(0,5)=KIND as(0,6)=KIND
            become(0,23)=1 as(0,0)=3 as(0,1)=KIND as(0,2)=3 as(0,3)=KIND as(0,4)=KIND as(0,5)=KIND as(0,6)=KIND
            become(0,34)=2 as(0,0)=4 as(0,1)=KIND as(0,2)=KIND as(0,3)=4 as(0,4)=KIND as(0,5)=KIND as(0,6)=KIND
            become(0,45)=3 as(0,0)=5 as(0,1)=5 as(0,2)=KIND as(0,3)=KIND as(0,4)=5 as(0,5)=KIND as(0,6)=KIND
            become(0,56)=4 as(0,0)=6 as(0,1)=KIND as(0,2)=6 as(0,3)=KIND as(0,4)=KIND as(0,5)=6 as(0,6)=KIND
            become(0,67)=5 as(0,0)=7 as(0,1)=KIND as(0,2)=KIND as(0,3)=7 as(0,4)=KIND as(0,5)=KIND as(0,6)=7""");
        Edge.edge("11. BEYOND: no such KIND, ahead of KIND", Edge.SOME, """
            as(0,7)=BEYOND as(0,-1)=BEYOND as(0,MIN)=BEYOND as(0,MAX)=BEYOND as(0,6)=KIND as(2,6)=2""");
        Edge.edge("11. BEYOND: no such EYE, ahead of KIND", Edge.SOME, """
            as(3,0)=BEYOND as(3,6)=BEYOND as(-1,0)=BEYOND as(-1,6)=BEYOND as(MIN,0)=BEYOND as(MAX,0)=BEYOND""");
        Edge.edge("11. m 0 and m 9", "eye(0,0)=0 eye(69,0)=1 as(0,0)=0 as(1,6)=9 as(1,3)=9");
    }
}
