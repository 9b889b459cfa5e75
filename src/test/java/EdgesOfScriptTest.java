/** A test for each sentence about a SCRIPT (promise 25, and its part of "Terms" ==== 3) that names a boundary. */
public final class EdgesOfScriptTest {
    private static final int NONE = GrowHouse.NONE;
    private static final String[] WORDS = {"grow", "crash", "replace", "repair", "steps", "tick", "lose", "image", "back",
        "write", "bad", "fill"};
    private static final int[] NUMBERS = {0, 0, 0, 0, 1, 1, 1, 1, 1, 2, 2, 3};

    private EdgesOfScriptTest() {
    }

    public static void main(String[] args) {
        text();
        tokens();
        again();
        faults();
        refusals();
        done();
        Check.end("EdgesOfScriptTest");
    }

    /** A text that is a FAULT: nothing is done, the TAPE is empty. */
    private static void fault(String text, int place, int kind) {
        GrowHouse x = Sample.calm();
        x.end(0);
        GrowHouse y = Sample.calm();
        y.end(0);
        Check.is("script of \"" + text + "\"", Check.script(x, text), Check.fault(place, kind));
        Check.same("what is told behind \"" + text + "\"", Sample.told(x), Sample.told(y));
    }

    /** How many DEEDS of a text are done. */
    private static void done(GrowHouse x, String text, int due) {
        Check.is("script of \"" + text + "\"", Check.script(x, text), due);
        Check.is("bytes on the TAPE", x.count(16), 0);
    }

    private static String times(String part, int many) {
        return part.repeat(many);
    }

    // the text

    private static void text() {
        textIsEmpty();
        textIs240BytesAtMost();
        tapeIsEmptyThen();
    }

    /** "{ DEED ; }": there may be none. */
    private static void textIsEmpty() {
        Check.part("25: no DEED");
        GrowHouse x = Sample.small();
        Check.is("script() of an empty TAPE", x.script(), 0);
        done(x, " ", 0);
        done(x, times(" ", 240), 0);
    }

    /** "a text of at most 240 bytes"; "NONE: more than 240 bytes" */
    private static void textIs240BytesAtMost() {
        Check.part("25: 240 bytes");
        GrowHouse x = Sample.small();
        done(x, "write 0 50;" + times(" ", 218) + "write 1 51;", 2);
        Check.reads(x, 0, 50, 51);
        done(x, times("tick 1;", 34) + "  ", 34);
        Check.is("TICKS", x.count(9), 34);
        // as many DEEDS as there can be
        done(x, times("grow;", 48), 1);
        Check.is("GROWN", x.count(3), 1);
        Check.part("25: NONE: more than 240 bytes");
        for (int more = 1; more <= 24; more++) {
            GrowHouse y = Sample.small();
            Check.feed(y, "write 0 50;" + times(" ", 229 + more));
            Check.is("script() of " + (240 + more), y.script(), NONE);
            Check.is("read(0)", y.read(0), 10);
            Check.is("bytes, as they were", y.count(16), 240 + more);
            y.end(240);
            Check.is("script() of its first 240", y.script(), 1);
            Check.is("read(0)", y.read(0), 50);
        }
        // a FAULT in it is not looked for
        GrowHouse z = Sample.small();
        Check.feed(z, times("?", 241));
        Check.is("script() of 241", z.script(), NONE);
        z.end(240);
        Check.is("script() of 240", z.script(), Check.fault(0, 1));
    }

    /** "The TAPE (empty then)": behind a FAULT, a refused DEED, too. */
    private static void tapeIsEmptyThen() {
        Check.part("25: the TAPE (empty then)");
        GrowHouse x = Sample.small();
        done(x, "write 0 50;", 1);
        Check.is("script() again", x.script(), 0);
        done(x, "crash;write 0 60;", 0);
        Check.is("script() again", x.script(), 0);
        done(x, "write 0 60;?", Check.fault(11, 1));
        Check.is("script() again", x.script(), 0);
        Check.is("read(0)", x.read(0), 50);
        Check.is("feed", x.feed(0, 0, 0), 24);
    }

    // tokens

    private static void tokens() {
        blanksOrNot();
        otherSignsAreNoBlanks();
        wordsAsFarAsLettersGoOn();
        numbersAsFarAsDigitsGoOn();
        numbersOfOneToFourDigits();
        numbersOfFiveDigits();
        eachDeedHasItsNumbers();
    }

    /** "with blanks (32) between TOKENS or not" */
    private static void blanksOrNot() {
        Check.part("25: blanks between TOKENS or not");
        GrowHouse x = Sample.small();
        done(x, "tick1;tick2;write0 50;again2[tick1;];", 5);
        done(x, "   tick   1   ;   write   1   51   ;   again   2   [   tick   1   ;   ]   ;   ", 4);
        Check.reads(x, 0, 50, 51);
        Check.is("TICKS", x.count(9), 7);
        Check.part("25: no blank inside a TOKEN");
        fault("ti ck 1;", 0, 1);
        fault("write 1 2 3;", 10, 1);
        fault("tick 1 0;", 7, 1);
    }

    /** "blanks (32)": no other byte is one. */
    private static void otherSignsAreNoBlanks() {
        Check.part("25: other bytes are no blanks");
        for (int sign = 0; sign < 256; sign++) {
            String lies = "" + (char) sign;
            boolean small = sign >= 'a' && sign <= 'z';
            if (sign != ' ') {
                fault("grow;" + lies, 5, 1);
                fault(lies + "grow;", 0, 1);
                if (!small && sign != ';') {
                    fault("grow" + lies + ";", 4, 1);
                }
            }
        }
    }

    /** "words: small letters, as far as these go on" */
    private static void wordsAsFarAsLettersGoOn() {
        Check.part("25: words as far as letters go on");
        for (char letter = 'a'; letter <= 'z'; letter++) {
            fault("grow" + letter + ";", 0, 1);
            fault("" + letter + ";", 0, 1);
        }
        // those next to small letters are none
        fault("grow`;", 4, 1);
        fault("grow{;", 4, 1);
        fault("growgrow;", 0, 1);
        fault("grows;", 0, 1);
        fault("gro;", 0, 1);
        fault("g;", 0, 1);
        fault("Grow;", 0, 1);
        fault("gRow;", 0, 1);
        fault("growW;", 4, 1);
        fault("tickx1;", 0, 1);
        fault("tick1x;", 5, 1);
        fault("grow;agai 1[];", 5, 1);
        fault("make 3 4;", 0, 1);
        fault("again 1[growx;];", 8, 1);
        fault(times("z", 240), 0, 1);
    }

    /** "N: .. (as far as digits go on)" */
    private static void numbersAsFarAsDigitsGoOn() {
        Check.part("25: numbers as far as digits go on");
        GrowHouse x = Sample.small();
        done(x, "write7 1234;", 1);
        Check.is("read(7)", x.read(7), 1234);
        fault("write 71234;", 6, 2);
        fault("tick 1-;", 6, 1);
        fault("tick -1;", 5, 1);
        fault("tick +1;", 5, 1);
        fault("tick 1.5;", 6, 1);
        fault("tick 0x1;", 6, 1);
    }

    /** "N: 1 to 4 digits" */
    private static void numbersOfOneToFourDigits() {
        Check.part("25: N of 1 to 4 digits");
        GrowHouse x = Sample.small();
        String[] texts = {"0", "9", "10", "99", "100", "999", "1000", "9999", "0000", "0009", "00", "007"};
        int[] due = {0, 9, 10, 99, 100, 999, 1000, 9999, 0, 9, 0, 7};
        for (int i = 0; i < texts.length; i++) {
            done(x, "write 3 " + texts[i] + ";", 1);
            Check.is("read(3)", x.read(3), due[i]);
        }
        fault("tick ;", 5, 1);
        fault("tick", 4, 1);
        fault("tick ", 5, 1);
    }

    /** "2 an N of five digits or more .. (at it)" */
    private static void numbersOfFiveDigits() {
        Check.part("25: an N of five digits or more");
        fault("tick 10000;", 5, 2);
        fault("tick 00000;", 5, 2);
        fault("tick 00001;", 5, 2);
        fault("tick 4294967297;", 5, 2);
        fault("tick " + times("9", 200) + ";", 5, 2);
        fault("tick   12345", 7, 2);
        fault("write 12345 1;", 6, 2);
        fault("write 1 12345;", 8, 2);
        fault("fill 12345 1 1;", 5, 2);
        fault("fill 1 12345 1;", 7, 2);
        fault("fill 1 1 12345;", 9, 2);
        fault("again 00020[];", 6, 2);
        fault("again 1[tick 12345;];", 13, 2);
        fault("grow;crash; lose 12345;", 17, 2);
        // where no N can stand it is that
        fault("grow 12345;", 5, 1);
        fault("tick 1 12345;", 7, 1);
        fault("12345;", 0, 1);
    }

    /** "DEED: grow | crash | ..": each with so many numbers, no more and no fewer. */
    private static void eachDeedHasItsNumbers() {
        Check.part("25: each DEED has its numbers");
        for (int i = 0; i < WORDS.length; i++) {
            StringBuilder text = new StringBuilder(WORDS[i]);
            for (int k = 0; k < NUMBERS[i]; k++) {
                fault(text + ";", text.length(), 1);
                fault(text + "", text.length(), 1);
                text.append(" 0");
            }
            fault(text + "", text.length(), 1);
            fault(text + " 1;", text.length() + 1, 1);
            fault(text + "[", text.length(), 1);
            fault(text + "]", text.length(), 1);
            fault(text + " grow;", text.length() + 1, 1);
            fault(text + ";;", text.length() + 1, 1);
            GrowHouse x = Sample.small();
            int got = Check.script(x, text + ";");
            Check.yes("script of \"" + text + ";\" is no FAULT", got == 0 || got == 1);
        }
    }

    // again

    private static void again() {
        againZeroToTwenty();
        againAboveTwenty();
        againHasItsSigns();
        againOfNothing();
        threeMayBeOpen();
        aFourthIsOpen();
    }

    /** "again N [ { DEED ; } ] (N 0 to 20" */
    private static void againZeroToTwenty() {
        Check.part("25: again 0 to 20");
        for (int n = 0; n <= 20; n++) {
            GrowHouse x = Sample.small();
            done(x, "again " + n + "[tick 1;];", n);
            Check.is("TICKS", x.count(9), n);
        }
        GrowHouse x = Sample.small();
        done(x, "again 0[tick 1;again 3[tick 1;];];again 0020[tick 1;];", 20);
        Check.is("TICKS", x.count(9), 20);
        done(x, "again 3[again 0[tick 1;];tick 1;];", 3);
        done(x, "again 3[tick 1;again 0[tick 1;];];", 3);
        done(x, "again 3[tick 1;again 0[tick 1;];tick 1;];tick 1;", 7);
        Check.is("TICKS", x.count(9), 33);
    }

    /** "2 .. of again above 20 (at it)" */
    private static void againAboveTwenty() {
        Check.part("25: of again above 20");
        fault("again 21[];", 6, 2);
        fault("again 9999[];", 6, 2);
        fault("again 021[];", 6, 2);
        fault("again   21", 8, 2);
        fault("again 20[again 21[];];", 15, 2);
        // of others it may be
        GrowHouse x = Sample.small();
        done(x, "tick 21;", 1);
    }

    /** "again N [ { DEED ; } ]" */
    private static void againHasItsSigns() {
        Check.part("25: the signs of again");
        fault("again", 5, 1);
        fault("again 2", 7, 1);
        fault("again 2;", 7, 1);
        fault("again 2];", 7, 1);
        fault("again [];", 6, 1);
        fault("again 2 3[];", 8, 1);
        fault("again 2[", 8, 1);
        fault("again 2[;];", 8, 1);
        fault("again 2[[];", 8, 1);
        fault("again 2[]", 9, 1);
        fault("again 2[] ", 10, 1);
        fault("again 2[]];", 9, 1);
        fault("again 2[grow];", 12, 1);
        fault("again 2[grow;", 13, 1);
        fault("again 2[grow;;];", 13, 1);
        fault("again 2[grow;] grow;", 15, 1);
        fault("again 2[again 2[];", 18, 1);
        fault("again 2[];];", 10, 1);
        fault("];", 0, 1);
        fault("[];", 0, 1);
        fault("grow;]", 5, 1);
        fault("2[];", 0, 1);
    }

    /** "{ DEED ; }" inside again: there may be none, and it ends all the same. */
    private static void againOfNothing() {
        Check.part("25: again of nothing");
        GrowHouse x = Sample.small();
        done(x, "again 20[];", 0);
        done(x, "again 20[again 20[again 20[];];];", 0);
        done(x, "again 20[again 20[" + times("again 20[];", 19) + "];];tick1;", 1);
        done(x, "again 2[again 20[];tick 1;again 20[again 3[];];];tick 1;", 3);
        done(x, "again 0[again 20[];tick 1;];tick 1;", 1);
        Check.is("TICKS", x.count(9), 5);
    }

    /** "3 may be open at one time" */
    private static void threeMayBeOpen() {
        Check.part("25: 3 may be open at one time");
        GrowHouse x = Sample.small();
        done(x, "again 2[again 3[again 4[tick 1;];];];", 24);
        Check.is("TICKS", x.count(9), 24);
        // side by side there may be more
        done(x, "again 1[again 1[again 1[tick 1;];again 2[tick 1;];];again 1[again 1[tick 1;];];];again 1[tick 1;];", 5);
        done(x, times("again 1[tick 1;];", 14), 14);
        Check.is("TICKS", x.count(9), 43);
    }

    /** "3 (at again) a fourth that is open" */
    private static void aFourthIsOpen() {
        Check.part("25: a fourth that is open");
        String three = "again 1[again 1[again 1[";
        fault(three + "again 1[];];];];", 24, 3);
        fault(three + " again 0[];];];];", 25, 3);
        fault(three + "tick 1;again 1[];];];];", 31, 3);
        fault(three + "];again 1[again 1[];];];];", 34, 3);
        fault("again 0[again 0[again 0[again 0[];];];];", 24, 3);
        // whatever is behind it
        fault(three + "again", 24, 3);
        fault(three + "again 99[", 24, 3);
        fault(three + "again;", 24, 3);
        fault(three + "againx 1[", 24, 1);
    }

    // faults

    private static void faults() {
        theFirstAlongTheText();
        theEndHasItsPlace();
        placesUpTo240();
        nothingIsDoneThen();
    }

    /** "FAULT, the first along the text" */
    private static void theFirstAlongTheText() {
        Check.part("25: the first FAULT");
        fault("tick 12345 ?", 5, 2);
        fault("? tick 12345;", 0, 1);
        fault("tick ? 12345;", 5, 1);
        fault("again 21[again 1[again 1[again 1[", 6, 2);
        fault("again 1[again 1[again 1[again 21[", 24, 3);
        fault("fill 1 12345 12345;", 7, 2);
        fault("fill ? 12345 1;", 5, 1);
        fault("again 21;", 6, 2);
        fault("again 12345", 6, 2);
    }

    /** "(its place; the end: how many bytes there are)" */
    private static void theEndHasItsPlace() {
        Check.part("25: the end: how many bytes there are");
        fault("grow", 4, 1);
        fault("grow   ", 7, 1);
        fault("   grow", 7, 1);
        fault("grow;again 1[", 13, 1);
        fault("grow;again 1[  ", 15, 1);
        fault("again 1[]", 9, 1);
        fault("fill 1 2", 8, 1);
        fault("grow;lose   ", 12, 1);
    }

    /** "-2 less (8 * place + kind)": to the very end of the longest text. */
    private static void placesUpTo240() {
        Check.part("25: -2 less (8 * place + kind)");
        GrowHouse x = Sample.small();
        Check.is("at 0", Check.script(x, "?"), -3 - 8 * 0);
        Check.is("at 239", Check.script(x, times(" ", 239) + "?"), -3 - 8 * 239);
        Check.is("at the end, 240", Check.script(x, times(" ", 236) + "grow"), -3 - 8 * 240);
        Check.is("kind 2 at 235", Check.script(x, times(" ", 230) + "tick 12345"), -4 - 8 * 235);
        Check.is("kind 3 at 235",
            Check.script(x, times(" ", 211) + "again 1[again 1[again 1[again"), -5 - 8 * 235);
    }

    /** "of the FAULT, nothing is done then": the DEEDS ahead of it are not. */
    private static void nothingIsDoneThen() {
        Check.part("25: nothing is done then");
        fault("grow;steps 5;?", 13, 1);
        fault("write 0 50;write 1 51", 21, 1);
        fault("lose 0;again 21[];", 13, 2);
        fault("image 0;image 1;tick 5;end;", 23, 1);
    }

    // refusals

    private static void refusals() {
        aRefusedDeedEndsIt();
        writeIsRefusedAtZeroAndMinusThree();
        whatIsNotRefused();
        aRefusedDeedEndsAgain();
    }

    /** "till one is refused (NONE, false": it is not counted, and none behind it is done. */
    private static void aRefusedDeedEndsIt() {
        Check.part("25: till one is refused");
        String[] atOnce = {"crash", "replace", "steps 1", "steps 0", "tick 0", "tick 61", "lose 3", "write 8 1", "fill 8 1 1",
            "fill 0 0 1", "fill 0 9 1", "bad 3 0", "bad 0 4", "image 2", "back 0", "back 2"};
        for (String deed : atOnce) {
            GrowHouse x = Sample.small();
            done(x, deed + ";tick 1;", 0);
            Check.is("TICKS", x.count(9), 0);
            done(x, "tick 1;" + deed + ";tick 1;", 1);
            Check.is("TICKS", x.count(9), 1);
        }
        String[] ahead = {"grow;", "lose 0;", "lose 0;", "bad 0 0;", "grow;steps 29;", "grow;", "grow;", "grow;lose 0;steps 1;"};
        String[] then = {"grow", "grow", "lose 1", "bad 0 0", "steps 1", "steps 401", "lose 4", "replace"};
        int[] due = {1, 1, 1, 1, 2, 1, 1, 3};
        for (int i = 0; i < then.length; i++) {
            GrowHouse x = Sample.small();
            done(x, ahead[i] + then[i] + ";tick 1;", due[i]);
            Check.is("TICKS", x.count(9), 0);
        }
    }

    /** "write: also 0, -3" */
    private static void writeIsRefusedAtZeroAndMinusThree() {
        Check.part("25: write: also 0, -3");
        GrowHouse x = Sample.small();
        done(x, "bad 0 0;bad 1 0;write 0 50;tick 1;", 2);
        Check.is("TICKS", x.count(9), 0);
        GrowHouse y = Sample.small();
        done(y, "grow;steps 1;write 0 50;tick 1;", 2);
        Check.is("TICKS", y.count(9), 0);
    }

    /** 0 of steps, tick, fill, replace, repair is no refusal. */
    private static void whatIsNotRefused() {
        Check.part("25: 0 of others is not refused");
        GrowHouse x = Sample.small();
        done(x, "repair;tick 1;bad 0 0;bad 1 0;fill 0 2 50;grow;steps 9;lose 3;replace;tick 1;", 10);
        Check.is("TICKS", x.count(9), 2);
        Check.is("STEPS", x.count(10), 0);
    }

    /** A DEED that is refused inside again ends all of it. */
    private static void aRefusedDeedEndsAgain() {
        Check.part("25: refused inside again");
        GrowHouse x = Sample.small();
        done(x, "again 5[tick 1;lose 0;tick 1;];tick 1;", 4);
        Check.is("TICKS", x.count(9), 3);
        done(x, "again 5[again 5[again 5[tick 1;crash;];tick 1;];tick 1;];tick 1;", 1);
        Check.is("TICKS", x.count(9), 4);
        // what was left over of it is of no account for the next one
        done(x, "again 2[tick 1;];", 2);
    }

    // what is done

    private static void done() {
        twoHundredDeeds();
        againIsNotCounted();
        eachAsItsCall();
    }

    /** "or 200 DEEDS .. were done" */
    private static void twoHundredDeeds() {
        Check.part("25: 200 DEEDS");
        GrowHouse x = Sample.small();
        done(x, "again 19[again 10[tick 1;];];again 9[tick 1;];", 199);
        Check.is("TICKS", x.count(9), 199);
        done(x, "again 20[again 10[tick 1;];];", 200);
        Check.is("TICKS", x.count(9), 399);
        done(x, "again 20[again 10[tick 1;];];tick 1;", 200);
        Check.is("TICKS", x.count(9), 599);
        done(x, "again 20[again 20[again 20[tick 1;];];];", 200);
        Check.is("TICKS", x.count(9), 799);
        // the 200th is refused: 199
        done(x, "again 19[again 10[tick 1;];];again 9[tick 1;];crash;tick 1;", 199);
        // the 201st would be
        done(x, "again 20[again 10[tick 1;];];crash;", 200);
        Check.is("TICKS", x.count(9), 1198);
    }

    /** "(again itself not counted)" */
    private static void againIsNotCounted() {
        Check.part("25: again itself not counted");
        GrowHouse x = Sample.small();
        done(x, "again 1[again 1[again 1[tick 1;];];];", 1);
        done(x, "again 20[again 5[again 2[tick 1;];];];", 200);
        Check.is("TICKS", x.count(9), 201);
    }

    /** "Done DEED by DEED, each as its call" */
    private static void eachAsItsCall() {
        Check.part("25: each as its call");
        GrowHouse x = Sample.calm();
        x.end(0);
        done(x, "image 1;write 0 50;fill 1 2 60;bad 0 3;repair;lose 2;replace;grow;steps 14;tick 7;", 10);
        GrowHouse y = Sample.calm();
        y.end(0);
        y.image(1);
        y.write(0, 50);
        y.fill(1, 2, 60);
        y.bad(0, 3);
        y.repair();
        y.lose(2);
        y.replace();
        y.grow();
        y.steps(14);
        y.tick(7);
        Check.reads(x, 0, 50, 60, 61);
        Check.is("served(1, 1)", x.served(1, 1), y.served(1, 1));
        done(x, "crash;", 1);
        y.crash();
        Check.same("what is told", Sample.told(x), Sample.told(y));
        done(x, "write 0 7;back 1;", 2);
        Check.is("read(0), IMAGE 1", x.read(0), 10);

        GrowHouse z = Sample.calm();
        z.end(0);
        z.ask(true, 1, 99, 0);
        // not GROWN: two writes and a read of one word
        done(z, "tick 5;", 1);
        Check.is("served(3, 1)", z.served(3, 1), 99);
        Check.is("REQUESTS", z.count(15), 0);
        done(z, "grow;steps 9999;", 1);
        done(z, "steps 400;", 1);
        Check.is("all NEW", z.count(3), 0);
    }
}
