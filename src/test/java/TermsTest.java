import java.util.function.Consumer;

/** Sentences of Terms I, and of the promises that lean on them, that name no edge: each has a test of its own. */
public final class TermsTest {
    private static final String KINDS = "pksrjt";

    private static int[] counts(RingAndFinger x) {
        int[] all = new int[18];
        for (int what = 0; what < 18; what++) {
            all[what] = x.count(what);
        }
        return all;
    }

    /** Of all counts those are as told (what, count, what, count, ..), and every other as it was. */
    private static void changed(String call, RingAndFinger x, int[] was, int... told) {
        int[] want = was.clone();
        for (int i = 0; i < told.length; i += 2) {
            want[told[i]] = told[i + 1];
        }
        for (int what = 0; what < 18; what++) {
            Edges.due("behind " + call + ": count(" + what + ")", x.count(what), want[what]);
        }
    }

    /** Three PARTS, one passed, nothing at 0, an image, a ROW. */
    private static RingAndFinger between() {
        RingAndFinger x = Edges.of("pp170;pk240;pj175;r1786;s05;c04;h7;t5;w02;");
        x.image();
        return Edges.rows(x, 3, 1, 4);
    }

    // Terms I "PARTS 0 .. as they come from the root on": in one hand and by several, PART 0 stays the first.
    private static void terms1FromTheRootOn() {
        RingAndFinger x = Edges.of("pt101;pk102;");
        Edges.tell(x, "ps103;");
        Edges.tell(x, "pj104;pr105;");
        Edges.tell(x, "pp106;");
        for (int part = 0; part < 6; part++) {
            Edges.due("KIND of PART " + part, x.part(part, 0), KINDS.indexOf("tksjrp".charAt(part)));
            Edges.due("THICK of PART " + part, x.part(part, 1), 101 + part);
        }
    }

    // Terms I "from the root on", "the RING is past it": it goes over PART 0, then 1, up to the last that came.
    private static void terms1GoesOverInThatOrder() {
        RingAndFinger x = Edges.of("pp110;pp140;");
        Edges.tell(x, "pp120;pp130;");
        int[] thick = {110, 140, 120, 130};
        for (int part = 0; part < 4; part++) {
            x.set(2, 0);
            x.set(0, 180);
            Edges.due("holds() in front of PART " + part, x.holds(), thick[part] - 180);
            x.set(0, thick[part] - 1);
            Edges.due("a TRY, a hundredth too narrow", x.tries(0), 0);
            x.set(2, 0);
            x.set(0, thick[part]);
            Edges.due("a TRY, just as wide", x.tries(0), 1);
        }
        Edges.due("OFF", x.holds(), -9999);
    }

    // Terms I "IN FRONT of PART r": the place is one thing, SIZE and BROAD others: set leaves the RING where it is.
    private static void terms1SetLeavesTheRing() {
        int[] counted = {7, 17, 2, 3, 10};
        int[] v = {250, 9, 30, 20, 9};
        for (int what = 0; what < 5; what++) {
            RingAndFinger x = between();
            int[] was = counts(x);
            Edges.due("set(" + what + ", " + v[what] + ")", x.set(what, v[what]), was[counted[what]]);
            changed("set(" + what + ", " + v[what] + ")", x, was, counted[what], v[what]);
        }
    }

    // Terms I ""p" a letter of a KIND, THICK (3 digits): a PART more; "r" SIZE (3 digits), BROAD (a digit); "s" SWELL;
    // "c" COLD; "h" HEAT": each changes what it tells and nothing else.
    private static void terms1EachStatementByItself() {
        Object[][] statements = {{"ps199;", 0, 4}, {"r2039;", 7, 203, 17, 9}, {"s17;", 2, 17}, {"c13;", 3, 13}, {"h2;", 10, 2}};
        for (Object[] s : statements) {
            RingAndFinger x = between();
            int[] was = counts(x);
            int[] told = new int[s.length - 1];
            for (int i = 0; i < told.length; i++) {
                told[i] = (Integer) s[i + 1];
            }
            Edges.due("hand of " + s[0], Edges.tell(x, (String) s[0]), 1);
            changed("hand of " + s[0], x, was, told);
            Edges.due("THICK of PART 0", x.part(0, 1), 170);
            Edges.due("THICK of PART 1", x.part(1, 1), 240);
            Edges.due("THICK of PART 2", x.part(2, 1), 175);
        }
    }

    private static void alike(String call, Consumer<RingAndFinger> told, Consumer<RingAndFinger> done) {
        RingAndFinger x = between();
        RingAndFinger y = between();
        told.accept(x);
        done.accept(y);
        changed(call, x, counts(y));
    }

    // Terms I ""t" a TRY (a digit)": told in a hand it does what tries does, past the PART or not.
    private static void terms1TryInAHand() {
        for (int kind = 0; kind < 7; kind++) {
            int k = kind;
            alike("t" + k + ";", x -> Edges.tell(x, "t" + k + ";"), x -> x.tries(k));
            alike("r2504;t" + k + ";", x -> Edges.tell(x, "r2504;t" + k + ";"), x -> {
                Edges.tell(x, "r2504;");
                x.tries(k);
            });
        }
    }

    // Terms I ""w" MINUTES (2 digits, 1 .. 60): a WAIT": told in a hand it does what pause does.
    private static void terms1WaitInAHand() {
        for (int m = 1; m <= 60; m++) {
            int minutes = m;
            String text = "w" + m / 10 + m % 10 + ";";
            alike(text, x -> Edges.tell(x, text), x -> x.pause(minutes));
        }
    }

    // Terms I "A HAND is told in letters, one by one": what is called between them does not disturb them, nor they it.
    private static void terms1LettersOneByOne() {
        RingAndFinger x = between();
        String text = "s09;pk111;t5;";
        for (int i = 0; i < text.length(); i++) {
            Edges.due("letter " + i, x.letter(text.charAt(i)), i + 1);
            x.tries(3);
            x.pause(1);
            x.row(2);
            x.set(4, i % 10);
            x.image();
            x.on();
            x.judge();
            x.letter(300);
            x.lots(2, i);
            x.soonest(1);
            Edges.due("letters", x.count(9), i + 1);
        }
        Edges.due("hand", x.hand(), 3);
        Edges.due("SWELL 9 and 1 more", x.count(2), 10);
        Edges.due("THICK of PART 3", x.part(3, 1), 111);
    }

    // Terms I "Without FAULT all of it comes": in the order in which it is told.
    private static void terms1InTheOrderTold() {
        Edges.due("the last SWELL", Edges.of("s05;s17;s11;").count(2), 11);
        Edges.due("SWELL, then a WAIT", Edges.of("s20;w10;").count(2), 15);
        Edges.due("a WAIT, then SWELL", Edges.of("w10;s20;").count(2), 20);
        Edges.due("wide, then a TRY", Edges.of("pp200;r2004;t0;").count(1), 1);
        Edges.due("a TRY, then wide", Edges.of("pp200;t0;r2004;").count(1), 0);
        Edges.due("COLD, then a TRY", Edges.of("pp190;c10;t0;").count(1), 1);
        Edges.due("a TRY, then COLD", Edges.of("pp190;t0;c10;").count(1), 0);
    }

    // Promise 3 "The letters become a HAND": the ROW and THE IMAGE are as they were, with a FAULT and without.
    private static void promise3RowAndImageStay() {
        for (String text : new String[] {"s30;", "s31;", "s3", "pp100;t6;w60;"}) {
            RingAndFinger x = between();
            Edges.tell(x, text);
            Edges.due("behind " + text + ": the ROW", x.count(8), 3);
            Edges.due("behind " + text + ": on()", x.on(), 8);
            Edges.due("its SWELL", x.count(2), 5);
            Edges.due("its PARTS", x.count(0), 3);
        }
    }

    // Terms I "a PART more": its THICK, of three digits, is the number that they are: each place counts.
    private static void terms1ThickDigits() {
        int[] thicks = {0, 1, 9, 10, 19, 90, 99, 100, 101, 110, 123, 199, 200, 209, 239, 240};
        for (int thick : thicks) {
            String text = "pp" + thick / 100 + thick / 10 % 10 + thick % 10 + ";";
            Edges.due("THICK of " + text, Edges.of(text).part(0, 1), thick);
        }
        Edges.due("SIZE of r1239;", Edges.of("r1239;").count(7), 123);
        Edges.due("BROAD of r1239;", Edges.of("r1239;").count(17), 9);
        Edges.due("SWELL of s12;", Edges.of("s12;").count(2), 12);
        Edges.due("COLD of c12;", Edges.of("c12;").count(3), 12);
        Edges.due("MINUTE of w12;", Edges.of("w12;").count(5), 12);
    }

    /** How thick a PART of 150 is at SWELL 13, COLD, HEAT 6. */
    private static int thick(char kind, int cold) {
        switch (kind) {
            case 'p': return 163 - cold;
            case 'k': return 156 - cold / 4;
            case 's': return 176 - cold;
            case 'r': return 179 - cold;
            case 'j': return 162 - cold / 4;
            default: return 152 - cold / 4;
        }
    }

    // Terms I "if the PART in front is NOW no more than SIZE and what it allows": of each KIND of PART, by each KIND of
    // TRY, just as much and a hundredth less wide; COOLED ones 8 colder, by which a KNUCKLE gets 2 thinner.
    private static void terms1TriesByKindOfPart() {
        int[] allows = {0, 4, 7, 5, 6, 15, 4};
        for (char part : KINDS.toCharArray()) {
            for (int kind = 0; kind < 7; kind++) {
                int size = thick(part, kind == 6 ? 11 : 3) - allows[kind];
                String text = "p" + part + "150;s13;c03;h6;r" + size + "4;";
                RingAndFinger x = Edges.of(text);
                Edges.due("would(" + kind + ") of " + text, x.would(kind), 1);
                Edges.due("tries(" + kind + ") of " + text, x.tries(kind), 1);
                x = Edges.of(text);
                x.set(0, size - 1);
                Edges.due("would(" + kind + "), a hundredth less than " + text, x.would(kind), 0);
                Edges.due("tries(" + kind + "), a hundredth less than " + text, x.tries(kind), 0);
            }
        }
    }

    // Promise 11 "HOLDS"; Terms II "by how much the PART in front is more NOW than SIZE": of each KIND of PART, one
    // behind the other, at the SWELL of then.
    private static void promise11HoldsByKindOfPart() {
        for (char part : KINDS.toCharArray()) {
            RingAndFinger x = Edges.of("p" + part + "150;s13;c03;h6;");
            Edges.due("holds() of a " + part, x.holds(), thick(part, 3) - 180);
        }
        RingAndFinger x = Edges.of("pp100;pk100;ps100;pr100;pj100;pt100;h6;");
        int[] holds = {-80, -79, -72, -68, -70, -79, -9999};
        for (int part = 0; part <= 6; part++) {
            Edges.due("holds() in front of PART " + part, x.holds(), holds[part]);
            x.tries(0);
        }
    }

    // Terms I "HARM (0 at first)": none is the greatest; by PULLED ones, MINUTE back at what it was, past 999.
    private static void terms1HarmHasNoGreatest() {
        RingAndFinger x = Edges.of("pp240;r1009;");
        for (int i = 1; i <= 400; i++) {
            x.tries(4);
            if (i % 100 == 0) {
                Edges.due("HARM behind " + i, x.count(6), 3 * i);
            }
        }
        Edges.due("image()", x.image(), 400);
        x.tries(5);
        Edges.due("HARM", x.count(6), 1202);
        x.on();
        Edges.due("HARM as then", x.count(6), 1200);
    }

    // Promise 24 and others "(the ROW stays)", promise 26 "the ROW has none then": judge alone takes it away.
    private static void promise25RowStays() {
        RingAndFinger x = Edges.rows(Edges.of("pp180;pk185;"), 0, 1, 0, 1, 0, 1, 0, 1, 0, 1, 0, 1);
        x.part(0, 2);
        x.set(2, 3);
        x.back();
        x.kind(1, 1);
        x.tries(1);
        x.pause(5);
        x.would(1);
        x.holds();
        x.goes(6);
        x.stop();
        x.waited(2);
        x.soonest(1);
        x.gentlest(1);
        x.danger(2);
        x.sticks(180);
        x.falls(180);
        x.year(1, 2, 0);
        x.two(3, 6, 1, 2, 0);
        x.worth(3, 6, 1, 2);
        x.went(1, 1);
        x.feel(1);
        x.lots(3, 3);
        x.image();
        x.on();
        x.row(5);
        Edges.tell(x, "s01;");
        Edges.due("in the ROW", x.count(8), 12);
        Edges.due("feel(0) is by twos still", x.feel(0) == -3 ? 1 : 0, 0);
        x.judge();
        Edges.due("in the ROW behind judge()", x.count(8), 0);
    }

    // Promise 30 "0 PARTS, 1 in front of which, 2 SWELL, .., 17 BROAD": eighteen numbers, no two alike but those at 0.
    private static void promise30EachItsOwn() {
        RingAndFinger x = Edges.of("pp100;pp240;pp100;pp100;r1588;s18;c17;h9;t5;t5;t5;t4;");
        Edges.rows(x, 1, 2, 3, 4, 5, 6, 7);
        Edges.letters(x, "s01;s01;s01;");
        x.pause(1);
        x.set(2, 26);
        x.part(9, 0);
        for (int i = 0; i < 2; i++) {
            x.kind(9, 0);
        }
        for (int i = 0; i < 3; i++) {
            x.on();
        }
        for (int i = 0; i < 5; i++) {
            x.pause(0);
        }
        for (int i = 0; i < 13; i++) {
            x.pause(61);
        }
        int[] want = {4, 1, 26, 17, 14, 20, 9, 158, 7, 12, 9, 1, 2, 3, 5, 0, 13, 8};
        for (int what = 0; what < 18; what++) {
            Edges.due("count(" + what + ")", x.count(what), want[what]);
        }
    }

    // Terms "REFUSALS (.. nothing changes but how many there were)": each counted by itself, as often as it is told,
    // and THE IMAGE does not bring them back.
    private static void termsRefusalsAreCounted() {
        RingAndFinger x = new RingAndFinger();
        for (int i = 1; i <= 40; i++) {
            Edges.due("stop() OFF", x.stop(), -3);
            Edges.due("letter(-1)", x.letter(-1), -4);
            Edges.due("how many -3", x.count(13), i);
            Edges.due("how many -4", x.count(14), i);
            x.image();
            x.on();
        }
        Edges.due("how many -1", x.count(11), 0);
        Edges.due("how many -2", x.count(12), 0);
        Edges.due("how many -6", x.count(16), 0);
    }

    public static void main(String[] args) throws ReflectiveOperationException {
        Edges.runAll(TermsTest.class);
    }
}
