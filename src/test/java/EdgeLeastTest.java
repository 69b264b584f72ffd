/** Each sentence on what is AT LEAST what, on ANSWERS and REDUCED ones that names a boundary case (promises 12 to 14). */
public final class EdgeLeastTest {
    public static void main(String[] args) {
        bounds();
        leftOptions();
        rightOptions();
        together();
        answers();
        answerRefusals();
        reducedOptions();
        turned();
        takenOut();
        orderOfSteps();
        oneBehindTheOther();
        reduceInto();
        Check.finish();
    }

    /** That g is AT LEAST h, or isn't; and so for the NEGATIVES, the other way round. */
    private static void least(String g, String h, boolean want) {
        GatheredPoints x = Check.with(g, h);
        Check.due(g + " AT LEAST " + h, x.compare(0, 1) & 1, want ? 1 : 0);
        Check.due("asked from the other side", x.compare(1, 0) & 2, want ? 2 : 0);
        x.negate(0, 2);
        x.negate(1, 3);
        Check.due("NEGATIVES of " + h + ", " + g, x.compare(3, 2) & 1, want ? 1 : 0);
        Check.due("ANSWER is there", x.answer(0, 1, 0, -1), want ? Check.NONE : Check.KIND);
    }

    private static void bounds() {
        Check.says(0, "g is AT LEAST h, if the FLOOR of g is that of h or more, and the CEILING of g that of h or more");
        least("5", "4", true);
        least("5", "5", true);
        least("5", "6", false);
        // FLOOR 0, CEILING 3; the others have no OPTIONS that would tell
        least("<0|:3>", "-1", true);
        least("<0|:3>", "0", true);
        least("<0|:3>", "1", false);
        least("0", "<:-3|-1>", true);
        least("0", "<:-3|0>", true);
        least("0", "<:-3|1>", false);
        least("<:1|:4>", "<:1|:4>", true);
        least("<:1|:4>", "<:2|:4>", false);
        least("<:1|:4>", "<:1|:5>", false);
        // a wait makes 7 of -5: that is in the CEILING, not in the RIGHT SCORE
        least("<6|:6>", "<:-9|<-5|7>>", false);
        least("<6|:7>", "<:-9|<-5|7>>", true);
    }

    private static void leftOptions() {
        Check.says(0, "and for each of Left's OPTIONS x of h there is one of Left's OPTIONS of g that is AT LEAST x,"
                + " or one of Right's OPTIONS y of x such that g is AT LEAST y");
        least("3", "<1|3>", false);
        least("<1|:3>", "<1|3>", true);
        least("<0|:3>", "<1|3>", false);
        least("<0,1|:3>", "<0,1|3>", true);
        // the second of Left's OPTIONS has no ANSWER, though FLOORS and CEILINGS are the same
        least("<0|:9>", "<0,<-1|:9>|9>", false);
        least("<0,<-1|:9>|:9>", "<0,<-1|:9>|9>", true);
        // Right turns it round
        least("0", "<<5|0>|-1>", true);
        least("0", "<<-1|0>|-1>", true);
        least("0", "<<-1|:0>|-1>", false);
        least("-1", "<<5|0>|-1>", false);
        least("0", "<<5|0,7>|-1>", true);
        least("0", "<<5|<:-3|0>,7>|-1>", true);
    }

    private static void rightOptions() {
        Check.says(0, "and for each of Right's OPTIONS x of g there is one of Right's OPTIONS of h than which x is AT LEAST,"
                + " or one of Left's OPTIONS y of x that is AT LEAST h");
        least("<1|2>", "1", false);
        least("<1|2>", "<:-5|2>", true);
        least("<1|2>", "<:-5|3>", false);
        least("<1|2,3>", "<:-5|2>", true);
        least("<3|1,2>", "<:-5|1,2>", true);
        least("<3|<1|-3>,2>", "<:-5|0>", true);
        least("<1|<0|-5>>", "0", true);
        least("<1|<0|1>>", "0", true);
        least("<1|<:0|1>>", "0", false);
        least("<1|<0|-5>>", "1", false);
        least("<1|<0,-7|-5>>", "0", true);
    }

    private static void together() {
        Check.says(12, "1 if the one is AT LEAST the other one, and 2 if that is AT LEAST the one, together.");
        String[] ones = {"<5|-3>", "4", "3", "<1,2|0>", "w1", "-w1", "w2"};
        String[] others = {"0", "3", "4", "<2|0>", "0", "0", "w1"};
        int[] wants = {0, 1, 2, 3, 1, 2, 1};
        for (int k = 0; k < ones.length; k++) {
            GatheredPoints x = Check.with(ones[k], others[k]);
            Check.due(ones[k] + ", " + others[k], x.compare(0, 1), wants[k]);
            Check.due("with itself", x.compare(0, 0), 3);
            Check.due("SLOTS stay", x.order(0, 1) != 0 ? 1 : 0, 1);
        }
        GatheredPoints x = Check.with(Check.SIXTY, "w9", Check.SIXTY);
        Check.due("the deepest ones", x.compare(0, 2), 3);
        Check.due("more waits", x.compare(0, 1), 1);
        Check.due("fewer waits", x.compare(1, 0), 2);
    }

    private static void answerIs(String g, String h, int side, int i, int want) {
        GatheredPoints x = Check.with(g, h);
        Check.due(g + " AT LEAST " + h + ", side " + side + ", " + i, x.answer(0, 1, side, i), want);
        x.negate(0, 2);
        x.negate(1, 3);
        // numbers of NEGATIVES of numbers run the other way, so this is asked only where there is one
        if (x.gameOf(side == 0 ? 1 : 0, 2 + side) == 1 && want % 100 == 0) {
            Check.due("of NEGATIVES", x.answer(3, 2, 1 - side, 0) / 100, want / 100);
        }
    }

    private static void answers() {
        Check.says(0, "ANSWER to such an x: of those that show it the one with the least number");
        answerIs("<1,2,3|:9>", "<1,2,3|:5>", 0, 0, 0);
        answerIs("<1,2,3|:9>", "<1,2,3|:5>", 0, 1, 1);
        answerIs("<1,2,3|:9>", "<1,2,3|:5>", 0, 2, 2);
        answerIs("<9|1,2,3>", "<:-9|1,2,3>", 1, 0, 0);
        answerIs("<9|1,2,3>", "<:-9|1,2,3>", 1, 2, 0);
        answerIs("<9|5>", "<:-9|<7|3>,5>", 1, 0, 0);
        answerIs("<9|<7|6>>", "<:-9|<9|8>,<7|3>>", 1, 0, 0);
        Check.says(0, "among OPTIONS of g (of h, if x is one of Right's) first, then among those of x");
        answerIs("<<5|0>|:9>", "<<5|0>|-1>", 0, 0, 0);
        answerIs("0", "<<5|0>|-1>", 0, 0, 100);
        answerIs("0", "<<5|<:-3|:5>,0>|-1>", 0, 0, 101);
        answerIs("0", "<<5|7,0>|-1>", 0, 0, 100);
        answerIs("0", "<<5|7,<:-3|0>>|-1>", 0, 0, 101);
        // there are OPTIONS of g, but none that shows it; and such as would show it that are none of g's
        answerIs("<0|:9>", "<<5|0>|-1>", 0, 0, 100);
        answerIs("<-1,0|:9>", "<<5|0>|-1>", 0, 0, 100);
        answerIs("<<:0|<7|:9>>|:9>", "<<5|0>|-1>", 0, 0, 100);
        answerIs("<1|<0|-5>>", "<:-9|0>", 1, 0, 100);
        answerIs("<1|<0|-5>>", "<:-9|<0|-5>>", 1, 0, 0);
        answerIs("<1|<0|-5>>", "0", 1, 0, 100);
        answerIs("<1|<-7,0|-5>>", "0", 1, 0, 101);
        answerIs("<1|<-7,<:-1|0>,<0|:7>|-5>>", "0", 1, 0, 102);
        Check.says(13, "to the i-th of Left's OPTIONS of the other one (side 0), of Right's of the one (1)");
        answerIs("<4|-2,-1>", "<1,2,3|-5>", 0, 2, 0);
        answerIs("<4|-2,-1>", "<1,2,3|-5>", 1, 1, 0);
        answerIs("<4|-2,-1>", "<1,2,3|-5>", 0, 3, Check.NONE);
        answerIs("<4|-2,-1>", "<1,2,3|-5>", 1, 2, Check.NONE);
    }

    private static void answerRefusals() {
        Check.says(13, "STATE: one isn't SURE. KIND: it isn't AT LEAST that. NONE: there is no such OPTION.");
        GatheredPoints x = Check.with("<1,2|-1>", "<:3|:2>", "5", "<5|-3>");
        Check.due("one isn't SURE", x.answer(1, 0, 0, 99), Check.STATE);
        Check.due("the other one isn't", x.answer(0, 1, 0, 99), Check.STATE);
        Check.due("isn't AT LEAST", x.answer(0, 2, 0, 99), Check.KIND);
        Check.due("isn't AT LEAST", x.answer(3, 0, 0, 0), Check.KIND);
        Check.due("of a SHUT side", x.answer(2, 2, 0, 0), Check.NONE);
        Check.due("of a SHUT side", x.answer(2, 2, 1, 0), Check.NONE);
        Check.due("one too far", x.answer(0, 0, 0, 2), Check.NONE);
        Check.due("the last", x.answer(0, 0, 0, 1), 1);
        Check.due("the first", x.answer(0, 0, 0, 0), 0);
        Check.due("one below", x.answer(0, 0, 0, -1), Check.NONE);
        int[] told = {0, 4, 2, 0, 2, 0};
        for (int k = 1; k <= 6; k++) {
            Check.due("told " + k, x.told(k), told[k - 1]);
        }
    }

    private static void reduced(String text, String want) {
        GatheredPoints x = Check.with(text);
        int size = x.reduce(0, 1);
        Check.due("SIZE of REDUCED " + text, size, x.gameOf(1, 0));
        Check.holds("REDUCED " + text, x, 1, want);
        Check.due("each AT LEAST the other one", x.compare(0, 1), 3);
    }

    private static void reducedOptions() {
        Check.says(0, "REDUCED of a SURE g: first each OPTION is REDUCED (of the same ones one stays)");
        reduced("5", "5");
        reduced("<:1|:4>", "<:1|:4>");
        reduced("w3", "w3");
        reduced("<0|<0,3|2>>", "<0|<3|2>>");
        reduced("<:1|<1,3|1>>", "<:1|<3|1>>");
        reduced("<0|<-2|-3,1>>", "<0|<-2|-3>>");
        reduced("<<1,2|0>,<2|0>|:9>", "<<2|0>|:9>");
        reduced("<<<1,2|0>|-5>|-9>", "<<<2|0>|-5>|-9>");
        reduced("<<0|1,1,-1>,<0|-1>,<0,-1|0>|0>", "<<0|0>|0>");
        reduced("<<:0|0,1>,<:0|0>|<-1|0>,1>", "<<:0|0>|1,<-1|0>>");
        reduced("<<0,1,0|-1,0>,<:0|0>,<:0|0,1>|1>", "<<:0|0>,<1|-1>|1>");
        reduced("<<1|1>|<1|2,1>,<2,2|-1>>", "<<1|1>|<1|1>,<2|-1>>");
    }

    private static void turned() {
        Check.says(0, "(1) of Left's OPTIONS the first x with one of Right's OPTIONS y (the first of these), that has Left's OPTIONS,"
                + " and than which the GAME is AT LEAST: in place of x come Left's OPTIONS of y.");
        reduced("<<1|<1|3>>|3>", "<1|3>");
        reduced("<<0|<-1|2>>|3>", "<-1|3>");
        reduced("<<2|<0|3>>|3>", "<0|3>");
        // all of y's Left's OPTIONS come
        reduced("<<5|<1,<3|-2>|-3>>|:9>", "<1,<3|-2>|:9>");
        // y is SHUT on Left: x stays
        reduced("<3,<0|0>|:3>", "<3,<0|0>|:3>");
        reduced("<1,<1|-1>|:1>", "<1,<1|-1>|:1>");
        reduced("<<1|<:0|2>>|3>", "<<1|<:0|2>>|3>");
        // the GAME isn't AT LEAST y
        reduced("<<1|<3|1>>|0>", "<<1|<3|1>>|0>");
        // OPTIONS that are neither better nor worse stay, the first GAME of all among them
        reduced("<-5,<3|-2>|:9>", "<-5,<3|-2>|:9>");
        reduced("<<2|1>,0|2>", "<0,<2|1>|2>");
        // the first y, not the last one; in the second TEXT that is REDUCED later than the other
        reduced("<<<-1|:2>,<0,1|-1>,<0,1|2>|1,<-2,-1|:0>,<-2,2|-1,1,2>>,<<-2,1|-2,2>,<0,2|2>,<1,2|2>|:2>|:2>", "<<<2|2>|:2>|:2>");
        reduced("<<<-1|:2>,<0,1|-1>,<0,1|2>|1,<-3,-2,-1|:0>,<-2,2|-1,1,2>>,<<-2,1|-2,2>,<0,2|2>,<1,2|2>|:2>|:2>", "<<<2|2>|:2>|:2>");
        Check.says(0, "(2) of Right's OPTIONS the first x with one of Left's OPTIONS y (the first of these), that has Right's OPTIONS,"
                + " and that is AT LEAST the GAME: in place of x come Right's OPTIONS of y.");
        reduced("<:1|<<:3|3>|3>>", "<:1|3>");
        reduced("<-1|<<-1|2>|-1>>", "<-1|2>");
        reduced("<0|<<0|3>|:3>>", "<0|3>");
        reduced("<:-9|<<3|-1,<2|-3>>|-5>>", "<:-9|-1,<2|-3>>");
        reduced("<:0|3,<2|:2>>", "<:0|3,<2|:2>>");
        reduced("<:-3|-2,<2|2>>", "<:-3|-2,<2|2>>");
        reduced("<-3|<<-2|:0>|-1>>", "<-3|<<-2|:0>|-1>>");
    }

    private static void takenOut() {
        Check.says(0, "(3) of Left's OPTIONS the first x such that another one is AT LEAST x, and x is not AT LEAST that,"
                + " or that has a lesser number: x goes.");
        reduced("<2,3|1>", "<3|1>");
        reduced("<1,2,3|1>", "<3|1>");
        reduced("<-2,2|:2>", "<2|:2>");
        reduced("<1,<3|-2>|-3>", "<1,<3|-2>|-3>");
        // each is AT LEAST the other one: that with the lesser number stays
        reduced("<<:-3|:2>,<<-3|-3>|:2>|1>", "<<:-3|:2>|1>");
        reduced("<-1,<<1|-1,2>|<-1|-1,3>>|-2,<1,<-3|:1>|1,<1|-2>>>", "<-1|-2,<1,<-3|:1>|1,<1|-2>>>");
        Check.says(0, "(4) of Right's OPTIONS the first x such that it is AT LEAST another one, and that is not AT LEAST x,"
                + " or has a lesser number: x goes.");
        reduced("<3|0,2>", "<3|0>");
        reduced("<3|0,1,2>", "<3|0>");
        reduced("<:0|0,1>", "<:0|0>");
        reduced("<3|-1,<2|-3>>", "<3|-1,<2|-3>>");
        reduced("<:-3|1,<:1|<1|1>>>", "<:-3|1>");
        // the first GAME of all goes
        reduced("<9|<:-5|:9>,<:-5|5>>", "<9|<:-5|5>>");
        reduced("<-9,-8|9>", "<-8|9>");
        reduced("<-1|<:-1|:3>,<<1,2|-1>|<3|0>,<3|-1,2>>>", "<-1|<:-1|:3>>");
    }

    private static void orderOfSteps() {
        Check.says(0, "then, as long as one of these can be done, the first that can, always with the GAME as it is then");
        reduced("<1,2,3|-1,-2,-3>", "<3|-3>");
        // turned round ahead of what would be taken out
        reduced("<0,<1,2|<0,2|1>>,<0,1,<-2,-1|2>|1,<:0|1>>|1>", "<2,<1,<-1|2>|<:0|1>>|1>");
        reduced("<:-2|<<:-2|1>|1>,<-1,3|3,<3|0,3>>>", "<:-2|1,<3|3,<3|0>>>");
        reduced("<:-3|<<2|1>|<-2|-1>,<-2|0,1>>,<-3,<3|:3>|<-3,0|2>>>", "<:-3|1,<<3|:3>|<0|2>>>");
        // one after another
        reduced("<<3|<0|-2>>|<<1|3>|3>>", "<0|3>");
        reduced("<3,<:-3|<-1|2>>|<<3|3>|0>,2>", "<3|2>");
        reduced("<<3|<2|0,1>,<0|0>>|<<0|2>|0>>", "<0|2>");
    }

    /** On one object, one behind the other: what was REDUCED ahead leaves no trace. */
    private static void oneBehindTheOther() {
        Check.says(14, "A SLOT holds REDUCED of what a SLOT holds: its SIZE.");
        String[] texts = {"<<3|<0|-2>>|<<1|3>|3>>", "<1|0,<0|1>>", "<1|<3|2>,2>", "<1,2,3|-1,-2,-3>", "<0|0,<1|0>>", "<3,<3|2>|2>", "<<1,2|0>|:9>",
            "<3,<1|3>|2>", "<<2|1>,0|2>", "<0|<<0|3>|:3>>", "<<0|-1>,<0|-1,0,3>,<2,1|-3>|1,0>", "w3", "<1,<1|-1>|:1>"};
        String[] wants = {"<0|3>", "<1|0,<0|1>>", "<1|2,<3|2>>", "<3|-3>", "<0|0,<1|0>>", "<3,<3|2>|2>", "<<2|0>|:9>",
            "<3,<1|3>|2>", "<0,<2|1>|2>", "<0|3>", "<<0|-1>,<2|-3>|0>", "w3", "<1,<1|-1>|:1>"};
        GatheredPoints x = new GatheredPoints();
        for (int k = 0; k < texts.length; k++) {
            Check.read(x, 0, texts[k]);
            x.reduce(0, 1);
            Check.holds("REDUCED " + texts[k], x, 1, wants[k]);
            Check.due("each AT LEAST the other one", x.compare(1, 0), 3);
        }
    }

    private static void reduceInto() {
        Check.says(14, "A SLOT holds REDUCED of what a SLOT holds: its SIZE.");
        GatheredPoints x = Check.with("<1,2|0>");
        Check.due("into another SLOT", x.reduce(0, 5), 3);
        Check.due("the one stays", x.gameOf(0, 0), 4);
        Check.due("into itself", x.reduce(0, 0), 3);
        Check.due("the same", x.order(0, 5), 0);
        Check.due("again", x.reduce(0, 0), 3);
        Check.due("nothing more", x.order(0, 5), 0);
        Check.read(x, 1, Check.SIXTY);
        Check.due("of SIZE 60", x.reduce(1, 2), 60);
        Check.due("the same", x.order(1, 2), 0);
        Check.says(14, "STATE: it isn't SURE.");
        Check.read(x, 1, "<:3|:2>");
        Check.due("not SURE", x.reduce(1, 2), Check.STATE);
        Check.read(x, 1, "<:2|:3>");
        Check.due("SURE", x.reduce(1, 2), 1);
    }
}
