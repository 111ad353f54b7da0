/** The document's Terms, sentence by sentence: where one names an edge, what is due just at it and just beyond. */
public final class TermsTest extends Twins {
    private static final String FOUR = clockText(12, "hour 1", "moon 2", "sweep 3", "back 4");
    private static final String NONE_BY_NONE = NONE + "/" + NONE;

    private static void numbers() {
        says("Numbers go from 0 on.");
        AlikeHands first = clockOf(FOUR);
        due("the first hand", first.hand(0, 0), 1);
        due("the last of four", first.hand(3, 0), 4);
        due("the first row", first.row(0, 0, 4), 4);
        due("the last of eight", first.row(7, 0, 4), 4);
        due("the first place", first.set(0, 0, 1), 1);
        due("the last of four", first.set(0, 3, 1), 1);
        due("the first reading", first.firstLie(0, 1, 2), 0);

        says("told as two numbers in lowest terms (0 is 0 by 1): a MOMENT");
        AlikeHands x = hands("hour 2", "hour 4");
        due("x and y of the first", doubt(x, 0), "0/1 1/2");
        due("x and y of the second", doubt(x, 1), "1/6 1/3");
        due("x and y of the fourth", doubt(x, 3), "1/2 0/1");
        due("next at 0", next(x, 0, 0, 9999), "0/1");
        due("next", next(x, 0, 2, 9999), "1/2");
        due("next square", next(x, 2, 1, 5), "3/8");
        due("glass of 0", glass(x, 0, 9999), "0/1");
        due("glass", glass(x, 3333, 9999), "2/3");

        says("told as two numbers in lowest terms (0 is 0 by 1): an ARC");
        due("points at 0", points(x, 0, 0, 9999), "0/1");
        due("points", points(x, 0, 3, 8), "3/4");
        x.slip(0, 6);
        due("points of one that slipped", points(x, 0, 0, 9999), "1/2");
        due("lies by nothing", lie(x, 720, 0, 0), "0/1");
        due("lies", lie(x, 720, 0, 180), "1/4");

        says("a MOMENT is a part of a round, from 0 on, below 1");
        due("next behind the last", next(x, 0, 9998, 9999), "0/1");
        due("glass of the least", glass(x, 1, 9999), "9998/9999");
        due("glass of 0", glass(x, 0, 1), "0/1");
        due("the last doubt", doubt(x, 5), "5/6 1/6");

        says("an ARC a part of the dial, from 0 on, below 1, the way of the sun from its mark");
        AlikeHands a = hands("hour 1", "back 1", "tide 6");
        due("the way of the sun", points(a, 0, 1, 12), "1/12");
        due("the other way, from 0 on", points(a, 1, 1, 12), "11/12");
        due("a whole one", points(a, 2, 1, 12), "0/1");
        due("just below a whole one", points(a, 0, 9998, 9999), "9998/9999");

        says("Sets are bits.");
        AlikeHands four = clockOf(FOUR);
        due("all four", lies(four, 1, 12, 0, 0, 0, 0), 15);
        due("the last alone", lies(four, 1, 12, 0, 0, 0, 1), 8);
        due("the first alone", lies(four, 1, 12, 1, 0, 0, 0), 1);
        due("none", lies(four, 1, 12, 1, 0, 0, 1), 0);
        due("in a glass", four.glass(1, 4, 2), 2 + 8);
    }

    private static void refusals() {
        says("BAD (a number is not as told; there is no such thing)");
        refused("a row", x -> x.drop(8), BAD);
        refused("a hand", x -> x.kind(4), BAD);
        refused("a kind", x -> x.as(0, 6), BAD);
        refused("an image", x -> x.restore(2), BAD);
        refused("a number of marks", x -> x.slip(0, 61), BAD);
        refused("a moment", x -> x.glass(1, 1, 0), BAD);

        says("the first of these that fits: BAD ahead of STATE");
        refused("image", Twins::bare, x -> x.image(2), BAD);
        refused("restore", Twins::bare, x -> x.restore(2), BAD);

        says("but as told: STATE ahead of BAD");
        refused("lies", Twins::bare, x -> x.lies(8, -1, 0, 9), STATE);
        refused("firstLie", Twins::bare, x -> x.firstLie(8, 0, 0), STATE);
        refused("glass", Twins::bare, x -> x.glass(0, 0, 9), STATE);

        says("the first of these that fits: BAD ahead of FULL");
        refused("feed", Twins::brimming, x -> x.feed(0, 9), BAD);

        says("BAD, STATE, FULL, then FINDINGS");
        refused("row, SIZE", x -> x.row(8, 0, -1), BAD);
        refused("copy, NULL", x -> x.copy(3, 0, 8, 0, 0), BAD);
        refused("copy, NULL", x -> x.copy(8, 0, 3, 0, 0), BAD);
        refused("lies, NULL", x -> x.lies(3, 0, 721, 0), BAD);
        refused("lies, PLACE", x -> x.lies(0, 9, 12, 4), BAD);
        refused("lies without a clock, NULL", Twins::bare, x -> x.lies(3, 0, 12, 0), STATE);
        refused("firstLie, NULL", x -> x.firstLie(3, 1, 0), BAD);
        refused("firstLie, PLACE", x -> x.firstLie(0, 11, 12), BAD);
        refused("firstLie without a clock, NULL", Twins::bare, x -> x.firstLie(3, 1, 12), STATE);
        refused("as, KIND", x -> x.as(4, 2), BAD);

        says("FINDINGS, of several the first in time");
        refused("NULL, PLACE of set", x -> x.set(3, -1, 0), NULL);
        refused("NULL of the one, PLACE of the other", x -> x.copy(3, 0, 0, 5, 1), NULL);
        refused("PLACE of the one, NULL of the other", x -> x.copy(0, 5, 3, 0, 1), NULL);
        refused("STORE, PLACE", x -> x.copy(0, -1, 1, -1, -1), STORE);
        refused("NULL, PLACE of lies", x -> x.lies(3, -1, 12, 0), NULL);
        refused("PLACE, then an item", x -> x.lies(0, 1, 1, 0), PLACE);
        refused("PLACE, then an item", x -> x.firstLie(0, 2, 1), PLACE);
    }

    private static void findings() {
        says("-1000010 less 1 NULL (a ROW that is missing)");
        refused("set", x -> x.set(3, 0, 0), -1000011);
        says("2 PLACE (no such place of a ROW)");
        refused("set", x -> x.set(0, 4, 0), -1000012);
        says("3 KIND (a HAND that is not that)");
        refused("as", x -> x.as(0, 4), -1000013);
        says("4 SIZE (fewer than none)");
        refused("row", x -> x.row(0, 0, -1), -1000014);
        says("5 STORE (ROWS of two LANES)");
        refused("copy", x -> x.copy(0, 0, 1, 0, 1), -1000015);

        says("What is refused, or found, changes nothing but status().");
        refused("a row in place of one", x -> x.row(0, 0, 41), BAD);
        refused("a row in place of one", x -> x.row(0, 1, -1), SIZE);
        refused("a part of a copy", x -> x.copy(2, 0, 2, 4, 5), PLACE);
        refused("a part of a feed", Twins::brimming, x -> x.feed(0x3B3B3B3B3B3B3B3BL, 8), FULL);
        refused("a slip", x -> x.slip(0, 61), BAD);
        refused("a trace", x -> x.ask(1, 2), BAD);
        refused("an image", x -> x.image(2), BAD);
        refused("a restore", x -> x.restore(0), STATE);
    }

    private static void rows() {
        says("ROWS 0 .. 7 are missing (at first)");
        AlikeHands x = new AlikeHands();
        due("rows at first", x.count(0), 0);
        for (int row = 0; row <= 7; row++) {
            due("drop at first", x.drop(row), NULL);
            due("the row is there", x.row(row, 2, row), row);
        }
        due("rows then", x.count(0), 8);
        due("no row 8", x.row(8, 2, 1), BAD);
        due("no row -1", x.row(-1, 2, 1), BAD);

        says("a LANE (0 bytes, 1 shorts, 2 ints)");
        for (int lane = 0; lane <= 2; lane++) {
            due("the lane is there", x.row(lane, lane, 1), 1);
        }
        due("bytes", x.set(0, 0, 70000), 112);
        due("shorts", x.set(1, 0, 70000), 4464);
        due("ints", x.set(2, 0, 70000), 70000);
        due("no lane 3", x.row(3, 3, 1), BAD);
        due("no lane -1", x.row(3, -1, 1), BAD);

        says("0 to 40 ITEMS");
        due("none", x.row(4, 2, 0), 0);
        due("40", x.row(5, 2, 40), 40);
        due("the last of 40", x.set(5, 39, 7), 7);
        due("none behind it", x.set(5, 40, 7), PLACE);
        due("41", x.row(5, 2, 41), BAD);

        says("ITEMS, 0 at first");
        AlikeHands one = hands("hour 1");
        fill(one, 0, 2, 5, 6, -7);
        one.row(0, 2, 3);
        dueItems(one, "behind others", 0, 0, 0, 0);
        fill(one, 0, 2, 5, 6, -7);
        one.drop(0);
        one.row(0, 0, 3);
        dueItems(one, "behind a drop", 0, 0, 0, 0);
        fill(one, 7, 0, 5, 6);
        one.row(7, 0, 0);
        one.row(7, 0, 2);
        dueItems(one, "behind none", 7, 0, 0);
    }

    private static void tokens() {
        says("THE TAPE has at most 200 bytes");
        AlikeHands x = new AlikeHands();
        for (int n = 8; n <= 200; n += 8) {
            due("feed", x.feed(0x2020202020202020L, 8), n);
        }
        due("the 201st", x.feed(32, 1), FULL);
        due("200 are read", x.clock(), -1000300);
        due("a text of 200", read(x, clockText(60, "hour 12") + " ".repeat(179)), 1);
        due("a text of 200, a fault at the last", read(x, clockText(60, "hour 12") + " ".repeat(178) + ";"), -1000299);

        says("NAMES (letters a to z)");
        for (char sign = 0; sign < 256; sign++) {
            boolean letter = sign >= 'a' && sign <= 'z';
            if (letter || (sign < '0' || sign > '9') && sign != ' ' && sign != '\n') {
                dueFault("dial 9;hand hour" + sign + "1;", letter ? 12 : 16, 1);
            }
        }
        dueFault("dial 9;hand Hour 1;", 12, 1);
        dueFault("dial 9;hand hourR 1;", 16, 1);
        dueFault("dial 9;hand hou 1;", 12, 1);
        dueFault("dial 9;hand ho ur 1;", 12, 1);
        dueFault("dial 9;HAND hour 1;", 7, 1);

        says("NUMBERS (figures, 3 at most)");
        dueRead("dial 10;hand hour 9;", 1);
        dueRead("dial 009;hand hour 001;", 1);
        due("hand of noughts ahead", clockOf("dial 009;hand hour 012;").hand(0, 0), 12);
        dueFault("dial 0009;hand hour 1;", 5, 1);
        dueFault("dial 9;hand hour 0001;", 17, 1);
        dueFault("dial 9/;hand hour 1;", 6, 1);
        dueFault("dial 9:;hand hour 1;", 6, 1);
        dueFault("dial -9;hand hour 1;", 5, 1);
        dueFault("dial 1 0;hand hour 1;", 5, 2);
        dueFault("dial 2 0;hand hour 1;", 7, 1);

        says("SIGNS ;");
        dueRead("dial 9;hand hour 1;", 1);
        for (char sign = 0; sign < 256; sign++) {
            if ((sign < '0' || sign > '9') && sign != ' ' && sign != '\n' && sign != ';') {
                dueFault("dial 9" + sign + "hand hour 1;", 6, 1);
            }
        }
        dueFault("dial 9;;hand hour 1;", 7, 1);
    }

    private static void blanks() {
        says("bytes 32 and 10 ahead of, between, behind these, as many as wanted");
        dueRead(" dial 9;hand hour 1;", 1);
        dueRead("\ndial 9;hand hour 1;", 1);
        dueRead("dial 9;hand hour 1; ", 1);
        dueRead("dial 9;hand hour 1;\n", 1);
        dueRead("\n \ndial\n9\n;\nhand\nhour\n1\n;\n \n", 1);
        dueRead(" ".repeat(90) + "dial 9;hand" + "\n".repeat(90) + "hour 1;", 1);
        for (char sign : "\t\u000b\f\r\u0000\u001f!\u00a0".toCharArray()) {
            dueFault(sign + "dial 9;hand hour 1;", 0, 1);
            dueFault("dial" + sign + "9;hand hour 1;", 4, 1);
            dueFault("dial 9;hand hour 1;" + sign, 19, 1);
        }

        says("(none is needed where one ends without)");
        dueRead("dial9;hand hour1;hand back2;", 2);
        due("MARKS", clockOf("dial9;hand hour1;").count(2), 9);
        dueFault("dial9;handhour1;", 6, 1);
    }

    private static void texts() {
        says("clock: dial hand { hand }.");
        dueFault("", 0, 1);
        dueFault("dial 9;", 7, 1);
        dueFault("hand hour 1;", 0, 1);
        dueFault("hand hour 1;dial 9;", 0, 1);
        dueFault("dial 9;dial 9;hand hour 1;", 7, 1);
        dueFault("dial 9;hand hour 1;dial 9;", 19, 1);
        dueRead("dial 9;hand hour 1;", 1);
        dueRead("dial 9;hand hour 1;hand hour 1;", 2);

        says("dial: 'dial' MARKS ';' (2 to 60).");
        dueFault("dial 1;hand hour 1;", 5, 2);
        dueFault("dial 61;hand hour 1;", 5, 2);
        due("2", clockOf("dial 2;hand hour 1;").count(2), 2);
        due("60", clockOf("dial 60;hand hour 1;").count(2), 60);
        dueFault("9;hand hour 1;", 0, 1);
        dueFault("dial;hand hour 1;", 4, 1);
        dueFault("dial dial;hand hour 1;", 5, 1);
        dueFault("dial 9 hand hour 1;", 7, 1);

        says("hand: 'hand' SORT TURNS ';' (1 to 12");
        dueFault("dial 9;hand hour 0;", 17, 2);
        dueFault("dial 9;hand hour 13;", 17, 2);
        due("1", clockOf("dial 9;hand hour 1;").hand(0, 0), 1);
        due("12", clockOf("dial 9;hand hour 12;").hand(0, 0), 12);
        dueFault("dial 9;hour 1;", 7, 1);
        dueFault("dial 9;hand 1;", 12, 1);
        dueFault("dial 9;hand hour;", 16, 1);
        dueFault("dial 9;hand hour 1", 18, 1);
        dueFault("dial 9;hand hour 1 hand hour 1;", 19, 1);

        says("(SORT: 'hour' | 'moon' | 'sweep' | 'back' | 'tide'");
        String[] sorts = {"hour", "moon", "sweep", "back", "tide"};
        for (int kind = 1; kind <= 5; kind++) {
            due(sorts[kind - 1], hands(sorts[kind - 1] + " 3").kind(0), kind);
        }
        for (String no : new String[] {"hours", "hou", "moo", "swee", "bac", "tid", "tides", "hand", "dial", "a", "our"}) {
            dueFault("dial 9;hand " + no + " 1;", 12, 1);
        }

        says("HANDS 0 .. 3, 4 at most");
        AlikeHands x = new AlikeHands();
        due("four", read(x, FOUR), 4);
        due("hand 3", x.hand(3, 0), 4);
        due("hand 4", x.hand(4, 0), BAD);
        due("hand -1", x.hand(-1, 0), BAD);
        due("five", read(x, FOUR + "hand hour 1;"), -1000100 - FOUR.length());
    }

    private static void clocks() {
        says("A CLOCK that is read stands in place of the one before (none at first)");
        AlikeHands x = new AlikeHands();
        due("none at first", x.count(1), 0);
        read(x, FOUR);
        read(x, "dial 7;hand tide 5;");
        due("HANDS", x.count(1), 1);
        due("MARKS", x.count(2), 7);
        due("TURNS", x.hand(0, 0), 5);
        due("SPEED", x.hand(0, 1), 10);
        due("no hand of the one before", x.hand(1, 0), BAD);

        says("no hand has SLIPPED");
        AlikeHands slipped = kept();
        due("hands that slipped ahead", slipped.count(3), 2);
        read(slipped, FOUR);
        due("hands that slipped then", slipped.count(3), 0);
        for (int h = 0; h < 4; h++) {
            due("what a hand slipped", slipped.hand(h, 2), 0);
        }

        says("no ACT can be undone");
        AlikeHands acted = kept();
        due("acts ahead", acted.count(4), 3);
        read(acted, FOUR);
        due("acts then", acted.count(4), 0);
        due("undo", acted.undo(), STATE);

        says("IMAGES and ROWS stay.");
        AlikeHands stays = kept();
        read(stays, FOUR);
        due("rows", stays.count(0), 4);
        due("an item's place", stays.set(2, 7, 3), 3);
        due("image 1", stays.restore(1), 1);
        due("hands of the image", stays.count(1), 2);
        due("what slipped in the image", stays.hand(0, 2), 5);
        due("image 0, none", stays.restore(0), STATE);
    }

    private static void faults() {
        says("FAULTS, the first TOKEN that has one (its first byte)");
        dueFault("dial 61;hand noon 13", 5, 2);
        dueFault("dial 60;hand noon 13", 13, 1);
        dueFault("dial 60;hand moon 13", 18, 2);
        dueFault("dial 60;hand moon 12", 20, 1);
        dueFault("  dial \n  061 ;hand", 10, 2);
        dueFault(FOUR + "\n\n hand 99", FOUR.length() + 3, 3);

        says("of one TOKEN the least");
        dueFault("dial 9 999;hand hour 1;", 7, 1);
        dueFault("61;hand hour 1;", 0, 1);
        dueFault("dial 9;hand 13 1;", 12, 1);
        dueFault("dial 9;99 hour 1;", 7, 1);
        dueFault("dial 9;hand hour 1;hand hour 1 0;", 31, 1);
        dueFault("dial 9999;hand hour 1;", 5, 1);

        says("1 it cannot stand there, or is none");
        dueFault(FOUR + "dial 9;", FOUR.length(), 1);
        dueFault(FOUR + "hour 1;", FOUR.length(), 1);
        dueFault(FOUR + ";", FOUR.length(), 1);
        dueFault(FOUR + "*", FOUR.length(), 1);

        says("(a run of four figures or more, at its first;");
        dueFault("dial 999;", 5, 2);
        dueFault("dial 1000;", 5, 1);
        dueFault("dial 0000;", 5, 1);
        dueFault("dial 12345678901234567890;", 5, 1);
        dueFault("dial 9;hand hour  00001;", 18, 1);
        dueFault(FOUR + "1234", FOUR.length(), 1);
        dueFault(" ".repeat(5) + "1".repeat(195), 5, 1);

        says("the end: how many bytes there are)");
        dueFault("", 0, 1);
        dueFault(" ", 1, 1);
        dueFault("\n \n", 3, 1);
        dueFault("dial", 4, 1);
        dueFault("dial ", 5, 1);
        dueFault("dial 9", 6, 1);
        dueFault("dial 9;\n", 8, 1);
        dueFault("dial 9;hand hour 1; hand ", 25, 1);
        dueFault("dial 9;" + " ".repeat(193), 200, 1);

        says("2 a NUMBER that is not as told");
        dueFault("dial 000;", 5, 2);
        dueFault("dial 001;", 5, 2);
        dueFault("dial 061;", 5, 2);
        dueFault("dial 9;hand hour 000;", 17, 2);
        dueFault("dial 9;hand tide 013;", 17, 2);
        dueFault("dial 9;hand back 60;", 17, 2);

        says("3 a hand more than there is room for (its word)");
        dueFault(FOUR + "hand", FOUR.length(), 3);
        dueFault(FOUR + "hand noon 99", FOUR.length(), 3);
        dueFault(FOUR + "hands", FOUR.length(), 1);
        dueFault(clockText(9, "hour 1", "hour 1", "hour 1") + "hand ", 48, 1);
    }

    private static void speeds() {
        says("SPEED of a HAND: TURNS; of a back one less than none, as many the other way; of a tide one twice TURNS.");
        String[] sorts = {"hour", "moon", "sweep", "back", "tide"};
        int[] times = {1, 1, 1, -1, 2};
        for (int k = 0; k < 5; k++) {
            due(sorts[k] + " 1", hands(sorts[k] + " 1").hand(0, 1), times[k]);
            due(sorts[k] + " 12", hands(sorts[k] + " 12").hand(0, 1), 12 * times[k]);
        }

        says("the ARC of SPEED times x, whole rounds left out");
        AlikeHands x = hands("tide 12", "back 12", "hour 12");
        due("just a round", points(x, 0, 1, 24), "0/1");
        due("just a round back", points(x, 1, 1, 12), "0/1");
        due("just below a round", points(x, 2, 1, 13), "12/13");
        due("just above a round", points(x, 2, 1, 11), "1/11");
        due("23 rounds", points(x, 0, 9998, 9999), "3325/3333");
        due("12 rounds back", points(x, 1, 9998, 9999), "4/3333");

        says("and of what it SLIPPED: MARKS from 0 on, each 1 by MARKS of the dial");
        x.slip(2, 5);
        due("slipped at 0", points(x, 2, 0, 1), "5/12");
        due("just a round with it", points(x, 2, 7, 144), "0/1");
        due("just below a round with it", points(x, 2, 6, 144), "11/12");
        due("just above a round with it", points(x, 2, 8, 144), "1/12");
        x.slip(1, 1);
        due("slipped forth, going back", points(x, 1, 1, 72), "11/12");
        AlikeHands other = clockOf("dial 60;hand hour 1;");
        other.slip(0, -1);
        due("of another dial", points(other, 0, 0, 1), "59/60");
    }

    private static void acts() {
        says("ACTS (24 at most are kept, of more the oldest is forgotten");
        AlikeHands x = hands("hour 1", "back 2");
        int[][] shown = new int[26][2];
        for (int act = 1; act <= 25; act++) {
            x.slip(act % 2, act);
            due("acts", x.count(4), Math.min(act, 24));
            shown[act] = new int[] {x.hand(0, 2), x.hand(1, 2)};
        }
        for (int left = 23; left >= 0; left--) {
            due("undo", x.undo(), left);
            due("hand 0, " + left + " left", x.hand(0, 2), shown[left + 1][0]);
            due("hand 1, " + left + " left", x.hand(1, 2), shown[left + 1][1]);
        }
        due("no 25th undo", x.undo(), STATE);
        due("the oldest stays", x.hand(1, 2), 1);
        due("no other stays", x.hand(0, 2), 0);

        says("each can be undone, the latest first");
        x.slip(0, 3);
        x.slip(1, 4);
        x.slip(0, -5);
        due("undo", x.undo(), 2);
        due("hand 0", x.hand(0, 2), 3);
        due("undo", x.undo(), 1);
        due("hand 1", x.hand(1, 2), 1);
        due("undo", x.undo(), 0);
        due("hand 0", x.hand(0, 2), 0);
        x.slip(1, 1);
        due("act behind undone ones", x.count(4), 1);
        due("undo", x.undo(), 0);
        due("hand 1", x.hand(1, 2), 1);

        says("also such by which nothing becomes another)");
        x.slip(0, 0);
        due("by 0", x.count(4), 1);
        x.slip(0, 12);
        due("by all MARKS", x.count(4), 2);
        x.slip(0, -60);
        due("by all MARKS, five times back", x.count(4), 3);
        due("undo", x.undo(), 2);
        due("undo", x.undo(), 1);
        due("undo", x.undo(), 0);
    }

    private static void foretold() {
        says("FORETOLD (nothing changes;");
        changesNothing("doubts", x -> x.doubts(0, 2), 3);
        changesNothing("doubt", x -> x.doubt(0, 2, 1, 3), 3);
        changesNothing("isDoubt", x -> x.isDoubt(0, 2, 1, 8), 3);
        changesNothing("next", x -> x.next(0, 2, 2, 1, 3, 0), 3);
        changesNothing("often", x -> x.often(0, 2, 2), 3);
        changesNothing("all", x -> x.all(), 3);
        changesNothing("glass", x -> x.glass(1, 3, 0), 3);
        changesNothing("true glass", x -> x.glass(1, 3, 2), 3);
        changesNothing("lies", x -> x.lies(0, 0, 30, 1), 0);
        changesNothing("firstLie", x -> x.firstLie(0, 1, 30), 0);

        says("by SPEEDS alone, nothing SLIPPED, but as told)");
        AlikeHands x = hands("hour 1", "hour 12");
        for (int slips = 0; slips < 2; slips++) {
            due("doubts", x.doubts(0, 1), 132);
            due("doubt", doubt(x, 0), "1/143 12/143");
            due("isDoubt", x.isDoubt(0, 1, 1, 143), 1);
            due("next", next(x, 0, 0, 1), "0/1");
            due("often", x.often(0, 1, 0), 11);
            due("all", x.all(), 11);
            due("lies", lies(x, 0, 12, 0, 0), 1);
            due("moved", lies(x, 1, 12, 0, 1), 3);
            due("lies by", lie(x, 12, 0, 1), "1/12");
            due("firstLie", x.firstLie(6, 1, 12), 0);
            due("glass", glass(x, 1, 3), "2/3");
            x.slip(0, 1);
            x.slip(1, 6);
        }
    }

    private static void doubts() {
        says("at another MOMENT y (unlike x)");
        AlikeHands x = hands("hour 1", "hour 12");
        due("0, whose y is 0", x.isDoubt(0, 1, 0, 1), 0);
        due("together, whose y is the same", x.isDoubt(0, 1, 1, 11), 0);
        due("another y", x.isDoubt(0, 1, 1, 13), 1);
        AlikeHands shared = hands("hour 2", "back 4");
        due("0, whose y is 0 and 1/2", doubt(shared, 0), "0/1 1/2");
        due("1/6, whose y is 1/6 and 2/3", doubt(shared, 1), "1/6 2/3");
        AlikeHands none = hands("hour 1", "back 2");
        due("none at all", none.doubts(0, 1), 0);
        due("the first of none", doubt(none, 0), NONE_BY_NONE + " " + NONE_BY_NONE);
        due("isDoubt where none is", none.isDoubt(0, 1, 1, 3), 0);
        due("isDoubt of 0 where none is", none.isDoubt(0, 1, 0, 1), 0);

        says("the i-th x, the least first");
        due("0", doubt(x, 0), "1/143 12/143");
        due("1", doubt(x, 1), "2/143 24/143");
        due("11, behind one left out", doubt(x, 11), "12/143 1/143");
        due("131, the last", doubt(x, 131), "142/143 131/143");
        due("132", doubt(x, 132), NONE_BY_NONE + " " + NONE_BY_NONE);

        says("its y, of several the least");
        due("0 or 1/2, but unlike 1/2", doubt(shared, 3), "1/2 0/1");
        due("5/6, as 1/3 is x", doubt(shared, 2), "1/3 5/6");
        due("1/3, below 5/6", doubt(shared, 5), "5/6 1/3");
        AlikeHands three = hands("hour 3", "hour 6");
        due("1/3, below 2/3", doubt(three, 0), "0/1 1/3");
        due("2/9 of three", doubt(three, 1), "1/9 2/9");
        AlikeHands most = hands("hour 12", "tide 12");
        due("1/12, the least of twelve unlike 0", doubt(most, 0), "0/1 1/12");
        due("all of the most that share", most.doubts(0, 1), 36);

        says("NONE: both SPEEDS are as great, either way.");
        String[][] asGreat = {{"hour 4", "hour 4"}, {"hour 4", "back 4"}, {"tide 2", "back 4"}, {"moon 12", "tide 6"}};
        for (String[] pair : asGreat) {
            AlikeHands alike = hands(pair);
            due("doubts", alike.doubts(0, 1), NONE);
            due("doubt", doubt(alike, 0), NONE_BY_NONE + " " + NONE_BY_NONE);
            due("isDoubt", alike.isDoubt(1, 0, 0, 1), NONE);
        }
        due("not as great", hands("hour 4", "tide 4").doubts(0, 1), 12);
    }

    private static void meetings() {
        says("the first MOMENT, from a told one on (that one, too)");
        AlikeHands x = hands("hour 1", "hour 12");
        due("together, that one", next(x, 0, 5, 11), "5/11");
        due("together, just behind", next(x, 0, 4546, 9999), "6/11");
        due("together, 0", next(x, 0, 0, 1), "0/1");
        due("across, that one", next(x, 1, 3, 22), "3/22");
        due("across, just behind", next(x, 1, 13, 88), "5/22");
        due("square, that one", next(x, 2, 7, 44), "7/44");
        due("square, just behind", next(x, 2, 15, 88), "9/44");

        says("round to it");
        due("together, the last one", next(x, 0, 10, 11), "10/11");
        due("together, behind the last", next(x, 0, 21, 22), "0/1");
        due("across, the last one", next(x, 1, 21, 22), "21/22");
        due("across, behind the last", next(x, 1, 43, 44), "1/22");
        due("square, the last one", next(x, 2, 43, 44), "43/44");
        due("square, behind the last", next(x, 2, 87, 88), "1/44");
        AlikeHands one = hands("moon 1", "moon 2");
        due("the one of a round", next(one, 0, 1, 9999), "0/1");
        due("the one across of a round", next(one, 1, 5000, 9999), "1/2");

        says("0 together, 1 just across (half a dial apart), 2 square (a fourth of a dial apart, either way)");
        due("together", next(one, 0, 0, 1), "0/1");
        due("across", next(one, 1, 0, 1), "1/2");
        due("square, the one way", next(one, 2, 0, 1), "1/4");
        due("square, the other way", next(one, 2, 1, 2), "3/4");
        due("of hands told the other way about", one.next(1, 0, 2, 1, 2, 0), 3);

        says("how many such there are in a round; NONE: SPEEDS alike.");
        for (int how = 0; how <= 2; how++) {
            due("one apart", one.often(0, 1, how), how < 2 ? 1 : 2);
            due("36 apart, the most", hands("back 12", "tide 12").often(0, 1, how), how < 2 ? 36 : 72);
            due("as great the other way", hands("back 1", "hour 1").often(0, 1, how), how < 2 ? 2 : 4);
            AlikeHands alike = hands("hour 4", "tide 2");
            due("alike", alike.often(0, 1, how), NONE);
            due("alike", next(alike, how, 0, 1), NONE_BY_NONE);
        }

        says("ALL together: at how many MOMENTS of a round; NONE: all SPEEDS are alike.");
        due("one hand", hands("hour 5").all(), NONE);
        due("two alike", hands("hour 4", "tide 2").all(), NONE);
        due("four alike", hands("hour 4", "tide 2", "moon 4", "sweep 4").all(), NONE);
        due("one of four not alike", hands("hour 4", "tide 2", "moon 4", "sweep 5").all(), 1);
        due("as great the other way", hands("hour 4", "back 4").all(), 8);
        due("36, the most", hands("back 12", "tide 12").all(), 36);
        due("what they share", hands("hour 2", "hour 8", "tide 7", "back 1").all(), 3);

        says("ANYHOW: a dial that is hung anyhow shows the same at as many MOMENTS as all HANDS are ALL together.");
        String[][] hung = {{"hour 1", "hour 12"}, {"hour 2", "hour 8", "tide 7", "back 1"}, {"hour 4", "back 4", "tide 2"}};
        for (String[] hands : hung) {
            AlikeHands asked = hands(hands);
            int[] speeds = new int[hands.length];
            for (int h = 0; h < hands.length; h++) {
                speeds[h] = asked.hand(h, 1);
            }
            due("as many", asked.all(), momentsAlike(speeds));
        }
    }

    /** At how many moments hands are as far from one another as at 0: of hands that meet at 792nds of a round. */
    private static int momentsAlike(int... speeds) {
        int n = 0;
        for (int k = 0; k < 792; k++) {
            boolean same = true;
            for (int speed : speeds) {
                same &= (speed - speeds[0]) * k % 792 == 0;
            }
            n += same ? 1 : 0;
        }
        return n;
    }

    private static void lies() {
        says("LIES: HANDS point at ARCS that a row tells (of each so many of D parts of the dial): whether there is a MOMENT");
        AlikeHands x = hands("hour 1", "hour 12");
        due("D 1", lies(x, 0, 1, 0, 0), 1);
        due("D 720, the last but one", lies(x, 0, 720, 719, 708), 1);
        due("D 720, just beside it", lies(x, 0, 720, 719, 709), 0);
        due("D 720, just beside it", lies(x, 0, 720, 719, 707), 0);
        AlikeHands two = hands("hour 2", "hour 1");
        due("at the second moment of the first", lies(two, 0, 4, 0, 2), 1);
        due("at none", lies(two, 0, 4, 0, 1), 0);
        due("at a moment between parts", lies(two, 0, 6, 1, 3), 0);
        AlikeHands tides = hands("tide 12", "back 12");
        due("at the last moment of many", lies(tides, 0, 2, 1, 1), 0);
        due("at the last moment of many", lies(tides, 0, 4, 2, 3), 1);
        AlikeHands one = hands("back 12");
        due("one hand", lies(one, 0, 720, 719), 1);

        says("MOVED: HANDS (bits, of all) of which each alone may be where it is not (with a MOMENT for all: all)");
        due("one hand", lies(one, 1, 720, 719), 1);
        due("each of two", lies(x, 1, 12, 0, 6), 3);
        AlikeHands three = hands("hour 2", "back 1", "tide 2");
        due("with a moment for all", lies(three, 1, 8, 2, 3, 4), 7);
        due("the last alone", lies(three, 1, 4, 0, 2, 3), 4);
        due("the first alone", lies(three, 1, 4, 1, 0, 0), 1);
        due("the middle alone", lies(three, 1, 8, 2, 2, 4), 2);
        due("none", lies(three, 1, 4, 1, 0, 1), 0);
        AlikeHands turned = hands("hour 1", "hour 2", "hour 4");
        due("the last alone, of hands that go the same way", lies(turned, 1, 4, 1, 2, 2), 4);
        due("the first or the second", lies(turned, 1, 4, 1, 0, 0), 1 + 2);
        due("the first or the last", lies(hands("hour 1", "hour 2", "hour 3"), 1, 2, 1, 0, 0), 1 + 4);
        due("the second or the last", lies(hands("hour 2", "hour 1", "hour 3"), 1, 2, 0, 1, 0), 2 + 4);

        says("by how much the last HAND LIES: the least ARC, either way");
        due("the one way", lie(x, 720, 0, 1), "1/720");
        due("the other way", lie(x, 720, 0, 719), "1/720");
        due("half a dial, the most", lie(x, 720, 0, 360), "1/2");
        due("just below half", lie(x, 720, 0, 359), "359/720");
        due("just beyond half", lie(x, 720, 0, 361), "359/720");
        due("from behind 0 to ahead of it", lie(x, 720, 60, 719), "1/720");
        due("the nearest of two", lie(two, 8, 0, 3), "1/8");
        due("the nearest of two, round", lie(two, 8, 0, 7), "1/8");
        due("as near to both", lie(two, 8, 0, 2), "1/4");
        due("a part of a part", lie(two, 720, 1, 0), "1/1440");
        due("by nothing, at the first of two", lie(two, 720, 0, 0), "0/1");
        due("by nothing, at the second of two", lie(two, 720, 0, 360), "0/1");
        due("one hand", lie(one, 720, 719), "0/1");

        says("NONE: there is none for the others.");
        due("none for the others", lie(three, 4, 1, 0, 0), NONE_BY_NONE);
        due("one for the others", lie(three, 4, 0, 2, 3), "1/4");

        says("FIRST LIE: n readings, one after another in a row: the first that LIES; NONE.");
        fill(x, 0, 2, 0, 0, 1, 0, 2, 1, 3, 1);
        due("none of one", x.firstLie(0, 1, 12), NONE);
        due("none of two", x.firstLie(0, 2, 12), NONE);
        due("the last of three", x.firstLie(0, 3, 12), 2);
        due("the first of two that lie", x.firstLie(0, 4, 12), 2);
        x.set(0, 1, 1);
        due("the first of all", x.firstLie(0, 4, 12), 0);
    }

    private static void glasses() {
        says("GLASS: in it the ARC of a HAND is what is left of a whole one (0 is 0)");
        AlikeHands x = hands("hour 1", "back 2", "tide 2");
        due("0 is 0", x.glass(0, 1, 2), 7);
        due("a half is a half", x.glass(1, 2, 2), 7);

        says("the MOMENT at which a clock that did not SLIP would show, what it shows in a glass at a told MOMENT");
        due("0", glass(x, 0, 1), "0/1");
        due("the least", glass(x, 1, 9999), "9998/9999");
        due("the greatest", glass(x, 9998, 9999), "1/9999");
        due("the middle", glass(x, 5, 10), "1/2");
        x.slip(0, 1);
        due("slipped", glass(x, 1, 9999), "9998/9999");

        says("(of several what is left of a whole one)");
        AlikeHands several = hands("hour 4", "moon 8");
        due("one of four", glass(several, 1, 16), "15/16");
        due("0, one of four", glass(several, 1, 4), "3/4");
        due("a half, one of four", glass(several, 1, 8), "7/8");
        due("one hand", glass(hands("tide 12"), 1, 48), "47/48");

        says("TRUE GLASS: HANDS (bits) whose ARC then, with what SLIPPED, is in a glass as it is.");
        due("one slipped, at 0", x.glass(0, 1, 2), 6);
        due("one slipped, where it is at 0", x.glass(11, 12, 2), 1);
        due("one slipped, where it is at a half", x.glass(5, 12, 2), 1);
        x.slip(0, 5);
        due("slipped by a half", x.glass(0, 1, 2), 7);
        due("at a fourth", x.glass(1, 4, 2), 6);
        due("at an eighth", x.glass(1, 8, 2), 4);
        due("none", x.glass(1, 9999, 2), 0);
    }

    private static void kinds() {
        says("KINDS of HANDS: 0 HAND; 1 HOUR, a HAND; 2 MOON, an HOUR one; 3 SWEEP, an HOUR one; 4 BACK, a HAND; 5 TIDE, a BACK one");
        String[] sorts = {"hour", "moon", "sweep", "back", "tide"};
        String[] isOne = {"110000", "111000", "110100", "100010", "100011"};
        for (int sort = 0; sort < 5; sort++) {
            AlikeHands x = hands(sorts[sort] + " 1");
            for (int kind = 0; kind <= 5; kind++) {
                due(sorts[sort] + " as " + kind, x.as(0, kind), isOne[sort].charAt(kind) == '1' ? 0 : KIND);
            }
        }

        says("(but goes the way of the sun)");
        AlikeHands tide = hands("tide 1");
        due("its speed", tide.hand(0, 1), 2);
        due("its arc", points(tide, 0, 1, 8), "1/4");
    }

    private static void asks() {
        says("leaves its number in THE TRACE as it begins (the first 16)");
        AlikeHands x = clockOf("dial 60;hand hour 5;hand moon 6;hand sweep 7;hand back 8;");
        for (int h = 0; h < 4; h++) {
            x.slip(h, 10 + h);
        }
        due("none at first", x.trace(0), NONE);
        due("the longest that there is", x.ask(1, 0), -30);
        int[] longest = {12, 11, 10, 24, 21, 20};
        for (int i = 0; i < 17; i++) {
            due("trace " + i, x.trace(i), i < 6 ? longest[i] : NONE);
        }

        says("11 of HOURS: what 10 gives, and MARK.");
        dueAsk(x, 0, 0, 5 + 10, 11, 10, 21, 20);
        says("12 of MOONS: 0 less what 11 gives.");
        dueAsk(x, 1, 0, -(6 + 24), 12, 11, 10, 24, 21, 20);
        says("13 of BACKS: what 10 gives, less 100.");
        dueAsk(x, 3, 0, 8 - 100, 13, 10);
        says("21 of HOURS: what 20 gives, and what it SLIPPED.");
        dueAsk(x, 0, 1, 10, 21, 20);
        says("22 of SWEEPS: what 21 gives, less 1000.");
        dueAsk(x, 2, 1, 2 + 12 - 1000, 22, 21, 20);
        says("23 of BACKS: what 20 gives, less SIZE.");
        dueAsk(x, 3, 1, 3 - (8 - 100), 23, 20, 13, 10);

        says("14 of TIDES: twice what 13 gives (asked once).");
        AlikeHands tide = hands("hour 1", "tide 12");
        tide.slip(1, 5);
        dueAsk(tide, 1, 0, 2 * (12 - 100), 14, 13, 10);
        says("24 of MOONS: twice what 21 gives (asked once).");
        dueAsk(x, 1, 1, 2 * (1 + 11), 24, 21, 20);

        says("the BODY told for the KIND begins, else that of the nearest KIND that it is, too");
        dueAsk(x, 2, 0, 7 + 2 + 12 - 1000, 11, 10, 22, 21, 20);
        says("SIZE, MARK within others are asked of the same HAND anew.");
        dueAsk(tide, 1, 1, 1 + 2 * 88, 23, 20, 14, 13, 10);
    }

    public static void main(String[] args) {
        numbers();
        refusals();
        findings();
        rows();
        tokens();
        blanks();
        texts();
        clocks();
        faults();
        speeds();
        acts();
        foretold();
        doubts();
        meetings();
        lies();
        glasses();
        kinds();
        asks();
        end();
    }
}
