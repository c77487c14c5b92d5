/** For each promise of the document at least one run of calls with the answers that are due. */
final class PromiseTests {
    private PromiseTests() {
    }

    static void run(Report report) {
        acts(report);
        windAndSettings(report);
        votes(report);
        ticks(report);
        texts(report);
        history(report);
        tellings(report);
        decisions(report);
        foresight(report);
    }

    private static void acts(Report report) {
        Script.test(report, "promise 1: a new house", """
                count 0 = 0
                count 1 = 0
                count 2 = 0
                count 3 = 0
                count 4 = 0
                count 5 = 640
                count 6 = 0
                count 7 = 0
                count 8 = 0
                count 9 = 0
                count 10 = -5
                count 11 = 6
                count 12 = 0
                count 13 = 2
                count 14 = 0
                count 15 = 0
                field 5 0 = 1
                field 5 1 = 0
                field 5 2 = -5
                field 5 3 = -5
                reason 5 = 3
                scarecrow 0 0 = -1
                decision 0 = -5
                swings = 0
                undo = -5
                restore = -5
                stopped 0 = -5
                stopped 1 = -5
                perform = -100
                """);
        Script.test(report, "promise 2: setUp", """
                setUp 5 4 9 3 = 0
                scarecrow 0 0 = 5
                scarecrow 0 1 = 4
                scarecrow 0 2 = 9
                scarecrow 0 3 = 3
                scarecrow 0 4 = 0
                scarecrow 0 9 = 0
                scarecrow 0 10 = 0
                straw 0 = 1.0
                count 5 = 640
                count 6 = 64
                setUp 0 1 1 0 = 1
                setUp 0 5 9 0 = 2
                count 1 = 3
                count 14 = 3
                undo = 2
                count 1 = 2
                setUp 2 3 4 1 = 2
                """);
        Script.test(report, "promise 2: setUp, errors in their order", """
                setUp 6 0 1 0 = -1
                setUp -1 1 1 0 = -1
                setUp 0 1 10 4 = -1
                setUp 0 1 1 -1 = -1
                setUp 0 0 1 0 = -2
                setUp 0 6 1 0 = -2
                setUp 0 1 0 0 = -2
                setUp 0 1 10 0 = -2
                setUp -2147483648 2147483647 -2147483648 2147483647 = -1
                twelve
                setUp 0 1 1 0 = -3
                setUp 0 6 1 0 = -2
                setUp 6 1 1 0 = -1
                count 1 = 12
                """);
        Script.test(report, "promise 3: carry", """
                carry 0 1 = -1
                setUp 0 2 1 0 = 0
                setUp 0 1 1 1 = 1
                crow 0 2 = 1
                mark
                carry 0 5 = 0
                scarecrow 0 0 = 5
                scarecrow 0 6 = 0
                scarecrow 0 7 = 1
                field 0 1 = 2
                field 5 1 = 1
                weight 5 2 = 0.125
                weight 0 2 = 0
                undo = 3
                same
                carry 0 0 = -5
                carry 0 6 = -1
                carry 0 -1 = -1
                carry 2 0 = -1
                carry -1 0 = -1
                carry 1 3 = 0
                carry 1 4 = 3
                """);
        Script.test(report, "promise 4: face", """
                face 0 0 = -1
                setUp 0 2 1 1 = 0
                mark
                face 0 3 = 1
                scarecrow 0 3 = 3
                scarecrow 0 9 = 0
                face 0 3 = -5
                face 0 4 = -1
                face 0 -1 = -1
                face 1 0 = -1
                face -1 0 = -1
                face 0 0 = 3
                undo = 2
                undo = 1
                same
                """);
        Script.test(report, "promise 5: crow", """
                crow 0 0 = -1
                setUp 0 2 1 1 = 0
                setUp 0 2 1 1 = 1
                crow 0 4 = -1
                crow 0 -1 = -1
                crow 2 0 = -1
                crow -1 0 = -1
                mark
                crow 0 0 = 1
                undo = 2
                same
                crow 0 0 = 1
                crow 0 3 = 2
                crow 0 3 = 3
                crow 1 3 = 1
                crow 0 1 = 4
                crow 0 2 = 5
                crow 0 2 = 6
                crow 0 2 = 7
                crow 0 0 = 8
                crow 0 0 = 9
                crow 0 0 = -3
                crow 0 4 = -1
                scarecrow 0 4 = 9
                scarecrow 0 5 = 3
                scarecrow 0 6 = 1
                scarecrow 0 7 = 3
                scarecrow 0 8 = 2
                scarecrow 1 4 = 1
                count 2 = 10
                """);
        Script.test(report, "promise 5: crow, to one without straw", """
                setUp 0 2 1 1 = 0
                crow 0 1 = 1
                pass 63 = 0
                crow 0 0 = 2
                pass 1 = 0
                straw 0 = 0
                crow 0 0 = -4
                crow 0 4 = -1
                fill 0 1 = 1
                crow 0 0 = 1
                """);
        Script.test(report, "promise 6: scare", """
                scare 0 = -1
                setUp 0 2 1 1 = 0
                scare 0 = -5
                scare 1 = -1
                scare -1 = -1
                crow 0 0 = 1
                crow 0 3 = 2
                mark
                scare 0 = 2
                scarecrow 0 4 = 0
                scarecrow 0 5 = 0
                scarecrow 0 8 = 0
                scare 0 = -5
                undo = 3
                same
                setUp 1 2 1 1 = 1
                crow 1 0 = 1
                scare 0 = 2
                scarecrow 1 4 = 1
                """);
        Script.test(report, "promise 7: fill", """
                fill 0 1 = -1
                setUp 0 2 1 1 = 0
                fill 0 64 = -5
                fill 0 0 = -2
                fill 0 65 = -2
                fill 0 -1 = -2
                fill 1 0 = -1
                fill -1 1 = -1
                crow 0 0 = 1
                crow 0 0 = 2
                crow 0 0 = 3
                pass 10 = 0
                straw 0 = 0.53125
                mark
                fill 0 10 = 10
                straw 0 = 0.6875
                count 5 = 630
                fill 0 64 = 20
                straw 0 = 1
                count 5 = 610
                count 7 = 30
                fill 0 1 = -5
                undo = 3
                undo = 2
                same
                """);
        Script.test(report, "promise 7: fill, till the store is empty", """
                setUp 0 2 9 1 = 0
                """ + """
                crow 0 0 = 1
                pass 64 = 0
                fill 0 64 = 64
                """.repeat(9) + """
                count 5 = 64
                crow 0 0 = 1
                pass 40 = 0
                fill 0 64 = 40
                count 5 = 24
                pass 64 = 0
                fill 0 64 = 24
                straw 0 = 0.375
                count 5 = 0
                count 7 = 680
                fill 0 1 = -5
                fill 0 0 = -2
                """);
        Script.test(report, "promise 8: seats", """
                wind 1 1 = 0
                mark
                seats 0 9 = 1
                field 0 0 = 9
                field 1 0 = 1
                count 11 = 14
                seats 0 9 = -5
                seats 0 2 = 9
                undo = 2
                undo = 1
                same
                seats 0 1 = -5
                seats 5 3 = 1
                seats 0 10 = -2
                seats 0 0 = -2
                seats 6 10 = -1
                seats 6 1 = -1
                seats -1 1 = -1
                """);
    }

    private static void windAndSettings(Report report) {
        Script.test(report, "promise 9: wind", """
                seats 0 2 = 1
                mark
                wind 1 3 = 0
                undo = 1
                same
                wind 0 0 = -5
                wind 1 3 = 0
                count 3 = 1
                count 4 = 3
                wind 1 3 = -5
                wind 1 4 = 13
                wind 3 4 = 14
                wind 2 0 = 34
                count 3 = 2
                count 4 = 0
                undo = 3
                undo = 2
                undo = 1
                undo = 0
                same
                wind 3 9 = 0
                wind 0 0 = 39
                wind 4 0 = -1
                wind -1 0 = -1
                wind 4 10 = -1
                wind 0 10 = -2
                wind 0 -1 = -2
                """);
        Script.test(report, "promise 10: set", """
                wind 1 1 = 0
                mark
                set 0 50 = 0
                undo = 1
                same
                set 0 0 = -5
                set 1 2 = -5
                set 0 50 = 0
                count 12 = 50
                count 13 = 2
                set 0 50 = -5
                set 1 8 = 2
                count 13 = 8
                undo = 2
                undo = 1
                same
                set 1 0 = 2
                set 1 8 = 0
                set 0 1 = 0
                set 0 0 = 1
                set 0 51 = -2
                set 0 -1 = -2
                set 1 9 = -2
                set 1 -1 = -2
                set 2 0 = -1
                set -1 0 = -1
                set 2 -1 = -1
                """);
    }

    private static void votes(Report report) {
        Script.test(report, "promise 11: vote", """
                vote = -4
                setUp 0 1 1 3 = 0
                vote = -4
                seats 0 5 = 1
                vote = -4
                count 14 = 2
                count 9 = 0
                count 10 = -5
                seats 0 6 = 5
                mark
                vote = 3
                count 9 = 1
                count 10 = 3
                count 14 = 4
                face 0 0 = 3
                vote = 0
                count 9 = 2
                count 10 = 0
                undo = 3
                count 9 = 1
                count 10 = 3
                undo = 2
                undo = 1
                same
                vote = 3
                seats 0 1 = 6
                vote = -4
                count 9 = 1
                count 10 = 3
                """);
    }

    private static void ticks(Report report) {
        Script.test(report, "promise 12: pass, who turns, and which way round", """
                setUp 0 1 1 0 = 0
                setUp 0 1 1 1 = 1
                setUp 0 1 1 2 = 2
                setUp 0 1 1 3 = 3
                wind 0 2 = 0
                pass 1 = 3
                scarecrow 0 3 = 0
                scarecrow 1 3 = 0
                scarecrow 2 3 = 3
                scarecrow 3 3 = 0
                scarecrow 0 9 = 0
                scarecrow 2 9 = 1
                count 8 = 3
                count 0 = 1
                undo = 3
                wind 1 9 = 2
                pass 1 = 3
                scarecrow 0 3 = 1
                scarecrow 1 3 = 1
                scarecrow 2 3 = 1
                scarecrow 3 3 = 0
                undo = 3
                wind 2 9 = 19
                pass 1 = 3
                scarecrow 0 3 = 1
                scarecrow 1 3 = 2
                scarecrow 2 3 = 2
                scarecrow 3 3 = 2
                undo = 3
                wind 3 9 = 29
                pass 1 = 3
                scarecrow 0 3 = 3
                scarecrow 1 3 = 2
                scarecrow 2 3 = 3
                scarecrow 3 3 = 3
                pass 99 = 1
                count 8 = 4
                count 0 = 100
                """);
        Script.test(report, "promise 12: pass, the strength against the post", """
                setUp 0 1 3 0 = 0
                setUp 0 1 9 0 = 1
                wind 1 3 = 0
                pass 9 = 0
                wind 1 4 = 13
                pass 1 = 1
                wind 1 9 = 14
                pass 1 = 0
                scarecrow 1 3 = 0
                """);
        Script.test(report, "promise 12: pass, straw of less than a half", """
                setUp 0 1 3 0 = 0
                crow 0 0 = 1
                wind 1 3 = 0
                turnsIn 0 = 34
                pass 33 = 0
                straw 0 = 0.484375
                undo = 3
                pass 32 = 0
                straw 0 = 0.5
                pass 1 = 0
                pass 1 = 1
                scarecrow 0 3 = 1
                """);
        Script.test(report, "promise 12: pass, no wind turns none, not even with little straw", """
                setUp 0 1 1 2 = 0
                crow 0 0 = 1
                pass 63 = 0
                scarecrow 0 3 = 2
                """);
        Script.test(report, "promise 12: pass, crows pluck and fly off", """
                setUp 0 1 9 0 = 0
                setUp 0 1 9 0 = 1
                crow 0 0 = 1
                crow 0 1 = 2
                crow 0 3 = 3
                crow 1 1 = 1
                pass 21 = 0
                straw 0 = 0.015625
                scarecrow 0 4 = 3
                scarecrow 0 10 = 63
                pass 1 = 0
                straw 0 = 0
                scarecrow 0 4 = 0
                scarecrow 0 10 = 64
                scarecrow 1 10 = 22
                scarecrow 1 4 = 1
                count 7 = 86
                count 6 = 42
                count 5 = 640
                count 2 = 1
                """);
        Script.test(report, "promise 12: pass, the wind shifts at the end of a tick", """
                setUp 0 1 1 0 = 0
                set 0 2 = 0
                wind 0 9 = 0
                pass 1 = 0
                count 3 = 0
                pass 1 = 0
                count 3 = 1
                pass 1 = 1
                count 3 = 1
                pass 1 = 0
                count 3 = 2
                pass 4 = 2
                count 3 = 0
                set 0 0 = 2
                pass 99 = 1
                count 3 = 0
                set 0 50 = 0
                pass 42 = 0
                count 0 = 149
                count 3 = 0
                pass 1 = 0
                count 3 = 1
                """);
        Script.test(report, "promise 12: pass, errors and the last tick", """
                pass 0 = -2
                pass -1 = -2
                pass 100 = -2
                pass 2147483647 = -2
                text .99;.99;.99;.99;.99;.99;.99;.99;.99;.99;.99;.99;.99;.99;.99
                count 15 = 59
                times 67: perform = 15
                count 0 = 99495
                perform = -4
                stopped 0 = 5
                stopped 1 = -3
                count 0 = 99495
                pass 99 = 0
                pass 99 = 0
                pass 99 = 0
                pass 99 = 0
                pass 99 = 0
                count 0 = 99990
                pass 10 = -3
                pass 99 = -3
                pass 100 = -2
                pass 9 = 0
                count 0 = 99999
                pass 1 = -3
                """);
    }

    private static void texts(Report report) {
        Script.test(report, "promise 13: type", """
                type 118 = 1
                count 15 = 1
                type 0 = 2
                type 65535 = 3
                count 14 = 0
                clearText = 3
                """ + typed(60) + """
                type 118 = -3
                type 0 = -3
                count 15 = 60
                """);
        Script.test(report, "promise 14: clearText", """
                clearText = 0
                type 118 = 1
                type 118 = 2
                clearText = 2
                count 15 = 0
                clearText = 0
                undo = -5
                type 118 = 1
                """);
        faults(report);
        Script.test(report, "promise 15: perform, what a sitting does", """
                setUp 0 1 1 1 = 0
                seats 0 6 = 1
                mark
                text w2*3;c0:3;.40;f0+5;v;f0+64;v
                perform = 7
                count 0 = 40
                count 3 = 2
                count 4 = 3
                scarecrow 0 8 = 1
                scarecrow 0 3 = 2
                scarecrow 0 10 = 40
                straw 0 = 1
                count 5 = 600
                count 9 = 2
                count 10 = 2
                count 14 = 3
                count 15 = 28
                undo = 2
                same
                perform = 7
                perform = 7
                """);
        Script.test(report, "promise 15: perform, the greatest and the least numbers", """
                twelve
                crow 11 0 = 1
                text w3*9;c11:3;.99;f11+64
                perform = 4
                count 0 = 99
                count 3 = 3
                count 4 = 9
                count 5 = 576
                straw 11 = 1
                text w0*0;c0:0;.1;f0+1
                perform = 4
                count 0 = 100
                count 3 = 0
                count 4 = 0
                count 5 = 575
                straw 0 = 1
                """);
        Script.test(report, "promise 15: perform, NONE does not stop it, and it is an act all the same", """
                text w0*0
                perform = 1
                count 14 = 1
                setUp 0 1 1 1 = 0
                text f0+64;f0+1;w0*0;w1*1
                perform = 4
                count 3 = 1
                """);
        Script.test(report, "promise 15: perform, all of it or nothing", """
                setUp 0 1 1 1 = 0
                mark
                text w2*3;c0:3;.40;f0+5;c1:0
                perform = -4
                same
                text w2*3;c0:3;.40;f0+5;v
                perform = -4
                same
                text c0:0;c0:0;c0:0;c0:0;c0:0;c0:0;c0:0;c0:0;c0:0;c0:0
                perform = -4
                same
                stopped 0 = 9
                stopped 1 = -3
                text c0:0;.64;c0:0
                perform = -4
                stopped 0 = 2
                stopped 1 = -4
                same
                text f11+1
                perform = -4
                stopped 0 = 0
                stopped 1 = -1
                """);
        Script.test(report, "promise 15: perform, as many things as the text has room for", """
                setUp 0 1 1 1 = 0
                seats 0 6 = 1
                """ + "text " + "v;".repeat(29) + "v\nperform = 30\ncount 9 = 30\n"
                + "text " + "v;".repeat(30) + "\ncount 15 = 60\nperform = -160\n"
                + "text " + "v;".repeat(29) + "vv\nperform = -159\ncount 9 = 30\n");
        Script.test(report, "promise 16: stopped", """
                stopped -1 = -2
                stopped 2 = -2
                stopped 0 = -5
                text c0:0
                perform = -4
                stopped 0 = 0
                stopped 1 = -1
                stopped 2 = -2
                setUp 0 1 1 1 = 0
                perform = 1
                stopped 0 = 0
                stopped 1 = -1
                text c0:0;v
                perform = -4
                stopped 0 = 1
                stopped 1 = -4
                text x
                perform = -100
                stopped 0 = 1
                undo = 1
                undo = 0
                keep = 0
                restore = 0
                stopped 0 = 1
                stopped 1 = -4
                """);
    }

    private static String typed(int many) {
        StringBuilder rows = new StringBuilder();
        for (int n = 1; n <= many; n++) {
            rows.append("type 59 = ").append(n).append('\n');
        }
        return rows.toString();
    }

    private static void faults(Report report) {
        String[] texts = {
            "w 1", "w4 1", "w-1 1", "w0 2", "w0; 2", "w00*1 2", "w0* 3", "w0*; 3", "w0*10 4", "w0*05 4", "w0:1 2",
            "c 1", "c: 1", "c0 2", "c1 2", "c12 2", "c12:0 2", "c00:1 2", "c05:1 2", "c20:0 2", "c10 3", "c100:0 3",
            "c11:4 4", "c0: 3", "c0:12 4", "c0+1 2", "c9:0;c 6", "c11:3;x 6",
            "f 1", "f+1 1", "f0 2", "f12+1 2", "f0:1 2", "f0+ 3", "f0+0 3", "f0+01 3", "f0+65 4", "f0+70 4",
            "f0+640 5", "f0+641 5", "f11+64v 6", "f0+6v 4",
            "v1 1", "v; 2", "vv 1", "; 0", ";v 0", "v;;v 2", "V 0", "v: 1", "x 0", "0 0",
            ". 1", ".0 1", ".09 1", ".100 3", ".999 3", ".99. 3", ".1x 2", ".1: 2", ".1;. 4", "../ 1", ".: 1",
        };
        StringBuilder faults = new StringBuilder();
        for (String text : texts) {
            int space = text.lastIndexOf(' ');
            faults.append(Script.faultsOf("text " + text.substring(0, space) + "\n"
                    + "perform = " + (-100 - Integer.parseInt(text.substring(space + 1))) + "\n"));
        }
        report.tell("promise 15: perform, the faults of texts", faults.toString());
    }

    private static void history(Report report) {
        Script.test(report, "promise 17: undo, four states and no more", """
                setUp 0 1 1 1 = 0
                setUp 1 1 1 1 = 1
                mark
                seats 0 2 = 1
                seats 0 3 = 2
                seats 0 4 = 3
                count 14 = 4
                seats 0 5 = 4
                count 14 = 4
                undo = 3
                field 0 0 = 4
                undo = 2
                field 0 0 = 3
                undo = 1
                field 0 0 = 2
                undo = 0
                same
                undo = -5
                count 1 = 2
                seats 0 9 = 1
                undo = 0
                same
                """);
        Script.test(report, "promise 17: undo, neither the text nor the snapshot", """
                keep = 0
                seats 0 2 = 1
                keep = 0
                text v
                seats 0 3 = 2
                undo = 1
                count 15 = 1
                undo = 0
                field 0 0 = 1
                restore = 0
                field 0 0 = 2
                """);
        Script.test(report, "promise 17: undo, all that ticks and votes change", """
                setUp 0 1 1 1 = 0
                seats 0 9 = 1
                crow 0 1 = 1
                set 0 3 = 0
                wind 3 9 = 0
                mark
                pass 60 = 21
                vote = 1
                fill 0 9 = 9
                undo = 3
                undo = 2
                undo = 1
                same
                """);
        Script.test(report, "promise 18: keep", """
                keep = 0
                pass 7 = 0
                keep = 7
                count 14 = 1
                undo = 0
                keep = 0
                count 14 = 0
                """);
        Script.test(report, "promise 19: restore", """
                restore = -5
                setUp 0 1 1 1 = 0
                crow 0 2 = 1
                set 0 5 = 0
                set 1 5 = 2
                pass 3 = 0
                mark
                keep = 3
                text vv
                seats 0 9 = 1
                vote = 1
                wind 2 2 = 0
                pass 20 = 5
                setUp 1 2 3 1 = 1
                fill 0 1 = 1
                restore = 3
                same
                count 14 = 4
                count 15 = 2
                undo = 3
                count 0 = 23
                count 1 = 2
                restore = 3
                same
                restore = 3
                count 14 = 4
                """);
        Script.test(report, "promise 19: restore, what undo brings back behind it", """
                keep = 0
                seats 0 2 = 1
                seats 0 3 = 2
                mark
                restore = 0
                field 0 0 = 1
                undo = 2
                same
                """);
    }

    private static void tellings(Report report) {
        Script.test(report, "promise 20: scarecrow", """
                setUp 3 4 5 2 = 0
                crow 0 0 = 1
                crow 0 1 = 2
                crow 0 1 = 3
                crow 0 2 = 4
                crow 0 3 = 5
                crow 0 3 = 6
                crow 0 3 = 7
                wind 0 6 = 0
                pass 2 = 2
                scarecrow 0 0 = 3
                scarecrow 0 1 = 4
                scarecrow 0 2 = 5
                scarecrow 0 3 = 0
                scarecrow 0 4 = 7
                scarecrow 0 5 = 1
                scarecrow 0 6 = 2
                scarecrow 0 7 = 1
                scarecrow 0 8 = 3
                scarecrow 0 9 = 2
                scarecrow 0 10 = 14
                scarecrow 0 11 = -2
                scarecrow 0 -1 = -2
                scarecrow 1 11 = -1
                scarecrow -1 0 = -1
                scarecrow 12 0 = -1
                """);
        Script.test(report, "promise 21: straw", """
                straw 0 = -1
                setUp 3 4 5 2 = 0
                straw 0 = 1
                straw 1 = -1
                straw -1 = -1
                straw 12 = -1
                crow 0 0 = 1
                pass 1 = 0
                straw 0 = 0.984375
                pass 63 = 0
                straw 0 = 0
                """);
        Script.test(report, "promise 22: weight", """
                weight 0 0 = 0
                setUp 0 3 9 1 = 0
                crow 0 0 = 1
                crow 0 3 = 2
                weight 0 0 = 0.125
                weight 0 3 = 0.125
                scare 0 = 2
                weight 0 1 = 3
                weight 0 0 = 0
                weight 1 1 = 0
                crow 0 2 = 1
                weight 0 2 = 0.125
                pass 16 = 0
                weight 0 1 = 2.25
                weight 0 2 = 0.125
                crow 0 1 = 2
                crow 0 1 = 3
                weight 0 1 = 2.5
                set 1 8 = 2
                weight 0 1 = 3.25
                weight 0 2 = 0.5
                set 1 0 = 8
                weight 0 1 = 2.25
                weight 0 2 = 0
                setUp 0 5 9 1 = 1
                setUp 1 5 9 1 = 2
                weight 0 1 = 7.25
                weight 6 0 = -1
                weight -1 0 = -1
                weight 0 4 = -1
                weight 0 -1 = -1
                """);
        Script.test(report, "promise 23: field", """
                setUp 2 3 9 1 = 0
                setUp 2 3 9 2 = 1
                setUp 1 5 9 2 = 2
                setUp 2 1 9 2 = 3
                field 2 0 = 1
                field 2 1 = 11
                field 2 2 = 2
                field 2 3 = 0
                field 1 1 = 4
                field 1 2 = 2
                field 1 3 = 2
                field 0 1 = 0
                field 0 2 = -5
                field 0 3 = -5
                field 0 4 = -2
                field 0 -1 = -2
                field 6 4 = -1
                field -1 0 = -1
                crow 0 0 = 1
                pass 1 = 0
                field 2 3 = 1
                setUp 2 4 9 0 = 4
                field 2 3 = 4
                carry 4 3 = 2
                field 2 3 = 1
                field 3 3 = 4
                """);
        Script.test(report, "promise 23: field, who votes for none has a speaker all the same", """
                setUp 2 3 9 1 = 0
                crow 0 0 = 1
                pass 64 = 0
                field 2 2 = -5
                field 2 3 = 0
                reason 2 = 4
                weight 2 1 = 0
                """);
        Script.test(report, "promise 24: reason", """
                reason 0 = 3
                reason 6 = -1
                reason -1 = -1
                setUp 0 2 9 0 = 0
                reason 0 = 0
                setUp 0 2 9 3 = 1
                reason 0 = 1
                field 0 2 = 0
                carry 0 1 = 0
                reason 0 = 0
                carry 0 0 = 1
                face 0 3 = 0
                face 1 1 = 3
                reason 0 = 1
                field 0 2 = 3
                setUp 0 2 9 2 = 2
                setUp 0 1 9 2 = 3
                setUp 0 1 9 1 = 4
                reason 0 = 2
                field 0 3 = 0
                field 0 2 = 1
                crow 4 2 = 1
                reason 0 = 0
                field 0 2 = 2
                scare 4 = 1
                face 4 0 = 1
                face 1 0 = 1
                reason 0 = 2
                field 0 2 = 0
                crow 4 0 = 1
                reason 0 = 0
                field 0 2 = 0
                crow 4 2 = 2
                crow 4 2 = 3
                reason 0 = 0
                field 0 2 = 2
                """);
        Script.test(report, "promise 30: count", """
                count -1 = -2
                count 16 = -2
                count -2147483648 = -2
                setUp 0 2 1 0 = 0
                setUp 1 2 1 0 = 1
                seats 0 9 = 1
                set 0 7 = 0
                set 1 3 = 2
                crow 0 2 = 1
                crow 1 2 = 1
                crow 1 1 = 2
                wind 3 5 = 0
                vote = 0
                pass 6 = 2
                fill 1 2 = 2
                text abc
                count 0 = 6
                count 1 = 2
                count 2 = 3
                count 3 = 3
                count 4 = 5
                count 5 = 638
                count 6 = 112
                count 7 = 18
                count 8 = 2
                count 9 = 1
                count 10 = 0
                count 11 = 14
                count 12 = 7
                count 13 = 3
                count 14 = 4
                count 15 = 3
                """);
    }

    private static void decisions(Report report) {
        Script.test(report, "promise 25: decision", """
                decision 2 = -2
                decision -1 = -2
                decision 1 = -5
                setUp 0 1 1 0 = 0
                setUp 1 1 1 1 = 1
                setUp 2 1 1 0 = 2
                seats 0 4 = 1
                seats 1 3 = 1
                seats 2 2 = 1
                decision 0 = -5
                decision 1 = -5
                seats 0 5 = 4
                decision 0 = 0
                decision 1 = 0
                face 1 0 = 1
                decision 0 = 0
                decision 1 = 0
                """);
        Script.test(report, "promise 25: decision, who is left over needs more than half of all seats", """
                setUp 0 1 1 2 = 0
                decision 0 = -5
                decision 1 = -5
                setUp 1 1 1 1 = 1
                setUp 2 1 1 3 = 2
                seats 2 4 = 1
                decision 0 = -5
                decision 1 = -5
                seats 2 5 = 4
                decision 0 = -5
                decision 1 = -5
                seats 2 6 = 5
                decision 0 = 3
                decision 1 = 3
                """);
        Script.test(report, "promise 25: decision, the first fields against the last", """
                setUp 0 1 1 1 = 0
                setUp 1 1 1 1 = 1
                setUp 2 1 1 2 = 2
                setUp 3 1 1 2 = 3
                setUp 4 1 1 2 = 4
                setUp 5 1 1 2 = 5
                decision 0 = 2
                decision 1 = 2
                seats 0 2 = 1
                decision 0 = 2
                decision 1 = 2
                seats 1 2 = 1
                decision 0 = -5
                decision 1 = -5
                seats 1 3 = 2
                decision 0 = 1
                decision 1 = 1
                """);
        Script.test(report, "promise 25: decision, one seat more than the others", """
                setUp 0 1 1 0 = 0
                setUp 1 1 1 0 = 1
                setUp 2 1 1 1 = 2
                setUp 3 1 1 1 = 3
                setUp 4 1 1 1 = 4
                setUp 5 1 1 0 = 5
                decision 0 = -5
                decision 1 = -5
                seats 1 2 = 1
                decision 0 = 0
                decision 1 = 0
                seats 3 2 = 1
                decision 0 = -5
                decision 1 = -5
                """);
        Script.test(report, "promise 26: swings", """
                swings = 0
                setUp 0 5 1 0 = 0
                swings = 0
                seats 0 9 = 1
                swings = 1
                setUp 0 1 1 1 = 1
                swings = 1
                setUp 1 1 1 1 = 2
                swings = 1
                setUp 0 4 1 1 = 3
                swings = 1
                field 0 2 = 0
                crow 3 1 = 1
                field 0 2 = 1
                swings = 10
                seats 0 1 = 9
                swings = 0
                """);
        Script.test(report, "promise 26: swings, from no decision to one", """
                setUp 0 1 1 0 = 0
                setUp 1 1 1 1 = 1
                seats 0 3 = 1
                seats 1 3 = 1
                decision 0 = -5
                swings = 3
                seats 2 3 = 1
                swings = 0
                """);
        Script.test(report, "promise 26: swings, by the speaker", """
                setUp 0 2 1 0 = 0
                setUp 0 1 1 1 = 1
                setUp 0 1 1 1 = 2
                setUp 0 1 1 2 = 3
                seats 0 9 = 1
                field 0 2 = 0
                swings = 9
                """);
        Script.test(report, "promise 27: withoutCrows", """
                withoutCrows = -5
                setUp 0 1 1 3 = 0
                seats 0 9 = 1
                withoutCrows = 3
                set 1 8 = 2
                crow 0 1 = 1
                crow 0 1 = 2
                decision 0 = 3
                crow 0 1 = 3
                decision 0 = 1
                withoutCrows = 3
                seats 0 5 = 9
                decision 0 = -5
                withoutCrows = -5
                setUp 0 1 1 2 = 1
                seats 0 6 = 5
                decision 0 = 1
                withoutCrows = 3
                crow 1 2 = 1
                pass 1 = 0
                field 0 3 = 1
                withoutCrows = 2
                """);
    }

    private static void foresight(Report report) {
        Script.test(report, "promise 28: turnsIn", """
                turnsIn 0 = -1
                setUp 0 1 1 0 = 0
                setUp 0 1 5 0 = 1
                turnsIn 2 = -1
                turnsIn -1 = -1
                turnsIn 0 = -5
                wind 0 9 = 0
                turnsIn 0 = -5
                wind 3 5 = 9
                turnsIn 0 = 1
                turnsIn 1 = -5
                wind 0 9 = 35
                set 0 50 = 0
                turnsIn 0 = 51
                pass 49 = 0
                turnsIn 0 = 2
                pass 1 = 0
                turnsIn 1 = 1
                pass 1 = 2
                turnsIn 1 = 50
                """);
        Script.test(report, "promise 28: turnsIn, as straw gets less", """
                setUp 0 1 5 0 = 0
                wind 2 5 = 0
                crow 0 0 = 1
                turnsIn 0 = 34
                crow 0 0 = 2
                turnsIn 0 = 18
                pass 10 = 0
                turnsIn 0 = 8
                pass 8 = 1
                scarecrow 0 3 = 1
                turnsIn 0 = 1
                pass 1 = 1
                turnsIn 0 = -5
                """);
        Script.test(report, "promise 29: ifTicks", """
                ifTicks 0 0 = -2
                ifTicks 301 0 = -2
                ifTicks -1 0 = -2
                ifTicks 1 3 = -2
                ifTicks 1 -1 = -2
                ifTicks 300 0 = -5
                ifTicks 300 1 = 0
                ifTicks 300 2 = 0
                setUp 0 1 1 0 = 0
                seats 0 9 = 1
                ifTicks 1 0 = 0
                wind 2 3 = 0
                ifTicks 1 0 = 1
                ifTicks 2 0 = 2
                ifTicks 1 1 = 1
                ifTicks 300 1 = 2
                crow 0 3 = 1
                crow 0 3 = 2
                ifTicks 1 2 = 2
                ifTicks 32 2 = 64
                ifTicks 300 2 = 64
                ifTicks 32 0 = -5
                pass 31 = 2
                ifTicks 300 2 = 2
                ifTicks 300 1 = 0
                set 0 1 = 0
                ifTicks 300 1 = 299
                """);
        Script.test(report, "promise 29: ifTicks knows no last tick", """
                text .99;.99;.99;.99;.99;.99;.99;.99;.99;.99;.99;.99;.99;.99;.99
                times 67: perform = 15
                text .99;.99;.99;.99;.99
                perform = 5
                setUp 0 1 1 0 = 0
                set 0 1 = 0
                wind 0 9 = 0
                pass 10 = -3
                ifTicks 300 1 = 299
                crow 0 0 = 1
                ifTicks 300 2 = 64
                turnsIn 0 = 2
                """);
    }
}
