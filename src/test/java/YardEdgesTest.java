import java.util.List;

/** Promises 4, 6 and 7 at their edges: the yard's text, and what it tells. */
public final class YardEdgesTest {
    private static final String[] TOLD = {"man", "way", "pails", "well", "spill", "back", "throw", "cells", "burn",
        "wind", "north", "east", "south", "west", "at", "row", "run", "stop", "aim", "give", "or", "and", "not", "out",
        "minute", "thrown", "lost", "burns", "water"};

    public static void main(String[] args) {
        Check.promise(4);
        loneBytes();
        bytesBetween();
        bytesInAName();
        bytesInANumber();
        wordLengths();
        numberLengths();
        names();
        numbers();
        numbersCount();
        defaults();
        endsOfTexts();
        tooLong();
        tokensAtTheEnd();
        twelveMen();
        eightRows();
        digits();
        burning();
        allBurn();
        onceOnly();
        winds();
        firstFault();
        leastFault();
        faultLeavesAll();
        newYard();
        latestStays();
        men();
        cells();
        Check.end();
    }

    private static boolean isLetter(int b) {
        return b >= 'a' && b <= 'z';
    }

    private static boolean isDigit(int b) {
        return b >= '0' && b <= '9';
    }

    private static boolean isBlank(int b) {
        return b == 32 || b == 10;
    }

    private static void loneBytes() {
        for (int b = 0; b < 256; b++) {
            boolean blank = isBlank(b);
            Check.dueYard("" + (char) b, blank ? 0 : -1, blank ? 0 : 1);
        }
        Check.dueYard("", 0, 0);
        Check.dueYard(" \n \n ", 0, 0);
    }

    private static void bytesBetween() {
        for (int b = 0; b < 256; b++) {
            String text = "way" + (char) b + "20;";
            if (isBlank(b)) {
                Check.dueYard(text, 1, 0);
            } else if (isDigit(b) || isLetter(b)) {
                Check.dueYard(text, -1, 1);
            } else {
                Check.dueYard(text, -4, 1);
            }
        }
        Check.dueYard("way 20;way20;", -8, 1);
        Check.dueYard("wind\neast;", 1, 0);
        Check.dueYard("windeast;", -1, 1);
        Check.dueYard("\nway\n\n 20 \n;\n", 1, 0);
    }

    private static void bytesInAName() {
        for (int b = 0; b < 256; b++) {
            String text = "man " + (char) b + " 1 1 1;";
            if (isLetter(b)) {
                Check.dueYard(text, 1, 0);
            } else {
                Check.dueYard(text, isBlank(b) ? -7 : -5, 1);
            }
            if (!isLetter(b) && !isBlank(b)) {
                Check.dueYard("man a" + (char) b + " 1 1 1;", isDigit(b) ? -5 : -6, 1);
            }
        }
    }

    private static void bytesInANumber() {
        for (int b = 0; b < 256; b++) {
            String text = "way 2" + (char) b + ";";
            if (isDigit(b)) {
                Check.dueYard(text, 1, 0);
            } else if (isLetter(b)) {
                Check.dueYard(text, -5, 1);
            } else {
                // The NUMBER is 2, whatever stands behind it.
                Check.dueYard(text, -5, 2);
            }
            if (!isDigit(b) && !isLetter(b) && !isBlank(b) && b != ';') {
                Check.dueYard("way 20" + (char) b + ";", -7, 1);
            }
        }
    }

    private static void wordLengths() {
        Check.dueYard("man a 1 1 1;", 1, 0);
        Check.dueYard("man z 1 1 1;", 1, 0);
        Check.dueYard("man abcdef 1 1 1;", 1, 0);
        Check.dueYard("man zzzzzz 1 1 1;", 1, 0);
        Check.dueYard("man abcdefg 1 1 1;", -5, 1);
        Check.dueYard("man zzzzzzz 1 1 1;", -5, 1);
        Check.dueYard("man " + "a".repeat(300) + " 1 1 1;", -5, 1);
        // Names alike in six letters are not cut to be alike.
        Check.dueYard("man abcdef 1 1 1;man abcdeg 1 1 1;man abcde 1 1 1;man bcdef 1 1 1;", 4, 0);
        Check.dueYard("throws 1;", -1, 1);
        Check.dueYard("thro 1;", -1, 1);
    }

    private static void numberLengths() {
        Check.dueYard("way 10;", 1, 0);
        Check.dueYard("way 00000010;", 1, 0);
        Check.dueYard("way 000000010;", -5, 1);
        Check.dueYard("way 99999999;", -5, 2);
        Check.dueYard("way 999999999;", -5, 1);
        Check.dueYard("way " + "0".repeat(300) + "20;", -5, 1);
        // 2^32 and 20.
        Check.dueYard("way 4294967316;", -5, 1);
        Check.dueYard("cells 1;", 1, 0);
        Check.dueYard("cells 12345678;", 1, 0);
        Check.dueYard("cells 123456789;", -7, 1);
        Check.dueYard("man a 1 1 00000001;", 1, 0);
        Check.dueYard("man a 1 1 000000001;", -11, 1);
    }

    private static void names() {
        List<String> told = List.of(TOLD);
        for (String word : TOLD) {
            Check.dueYard("man " + word + " 1 1 1;", -5, 1);
            if (word.length() < 6) {
                Check.dueYard("man " + word + "x 1 1 1;", 1, 0);
            }
            String shorter = word.substring(0, word.length() - 1);
            if (!told.contains(shorter)) {
                Check.dueYard("man " + shorter + " 1 1 1;", 1, 0);
            }
        }
        Check.dueYard("man still 1 1 1;man yard 1 1 1;man plan 1 1 1;man one 1 1 1;man tired 1 1 1;", 5, 0);
    }

    /** A NUMBER from least to most is fine between these; the next ones are fault 2 at it. */
    private static void dueNumber(String ahead, int least, int most, String behind) {
        PailRow x = new PailRow();
        for (int number : new int[] {least, most}) {
            Check.tape(x, ahead + number + behind);
            Check.due("a fault in " + ahead + number + behind, x.yard() < 0, false);
            Check.tape(x, ahead + "000000" + number + behind);
            boolean short8 = number <= 99;
            Check.due("a fault in " + ahead + "000000" + number + behind, x.yard() < 0, !short8);
        }
        if (least > 0) {
            Check.dueYard(ahead + (least - 1) + behind, -1 - ahead.length(), 2);
            Check.dueYard(ahead + "0" + behind, -1 - ahead.length(), 2);
        }
        Check.dueYard(ahead + "-1" + behind, -1 - ahead.length(), 1);
        int[] beyond = {most + 1, most + 256, 65536 + most, 99999999};
        for (int number : beyond) {
            Check.dueYard(ahead + number + behind, -1 - ahead.length(), 2);
        }
        Check.dueYard(ahead + "al" + behind, -1 - ahead.length(), 1);
        Check.dueYard(ahead + ";", -1 - ahead.length(), 1);
        Check.dueYard(ahead, -1 - ahead.length(), 1);
    }

    private static void numbers() {
        dueNumber("way ", 10, 99, ";");
        dueNumber("spill ", 0, 99, ";");
        dueNumber("back ", 1, 99, ";");
        dueNumber("throw ", 1, 9, ";");
        dueNumber("man a ", 1, 9, " 1 1;");
        dueNumber("man a 1 ", 1, 9, " 1;");
        dueNumber("man a 1 1 ", 1, 99, ";");
        dueNumber("pails ", 1, 30, " 1;");
        dueNumber("pails 1 ", 1, 20, ";");
        dueNumber("well ", 1, 30, " 1;");
        dueNumber("well 1 ", 0, 9999, ";");
    }

    /** The numbers at both ends are taken as they are. */
    private static void numbersCount() {
        PailRow most = Check.yard("man a 9 9 99;man b 9 9 99;way 99;pails 30 20;well 30 9999;spill 99;back 99;throw 9;");
        Check.due("count(6)", most.count(6), 99);
        Check.due("count(3)", most.count(3), 30);
        Check.due("period", Check.men(most, 0, 1).period(), 30 + 9 + 24);
        Check.due("row until the first is thrown", Check.men(most, 0, 1).row(1 + 63 + 1 + 18 - 1), 0);
        Check.due("row", Check.men(most, 0, 1).row(1 + 63 + 1 + 18), 1);
        Check.due("rowBy(3): 19 of 20, once", most.rowBy(3), 19);
        Check.due("litres drawn", most.rowBy(2), 40);
        Check.due("a full well", Check.yard("well 30 9999;").night(0, 3), 9999);
        PailRow least = Check.yard("man a 1 1 1;man b 1 1 1;way 10;pails 1 1;well 1 0;spill 0;back 1;throw 1;");
        Check.due("count(6)", least.count(6), 10);
        Check.due("count(3)", least.count(3), 1);
        Check.due("period", Check.men(least, 0, 1).period(), 4);
        Check.due("an empty well", least.night(0, 3), 0);
        Check.due("row of an empty well", Check.men(least, 0, 1).row(3600), 0);
        Check.due("litres drawn", least.rowBy(2), 0);
    }

    /** What is not told: 30; 6 8; 5 9999; 0; 20; 2; still. */
    private static void defaults() {
        String men = "man a 2 3 9;man b 1 1 9;";
        PailRow bare = Check.yard(men + "cells 449;burn 1 0;");
        PailRow told = Check.yard(men + "way 30;pails 6 8;well 5 9999;spill 0;back 20;throw 2;cells 449;burn 1 0;");
        Check.due("count(3)", bare.count(3), 6);
        Check.due("count(6)", bare.count(6), 30);
        Check.due("period", Check.men(bare, 0, 1).period(), 5 + 2 + 7);
        Check.due("period", Check.men(bare, 1, 0).period(), 5 + 1 + 7);
        for (int ticks = 0; ticks <= 400; ticks++) {
            Check.due("row(" + ticks + ")", Check.men(bare, 0, 1).row(ticks), Check.men(told, 0, 1).row(ticks));
            for (int what = 0; what <= 5; what++) {
                Check.due("rowBy(" + what + ")", bare.rowBy(what), told.rowBy(what));
            }
            Check.due("running", Check.men(bare, 0, 1).running(ticks), Check.men(told, 0, 1).running(ticks));
        }
        Check.due("a full well", bare.night(0, 3), 9999);
        // One pail: drawn at 15, thrown at 19, at the well again 20 later.
        PailRow one = Check.yard(men + "pails 1 8;");
        Check.men(one, 0, 1).row(19);
        Check.due("a pail is thrown: rowBy(4)", one.rowBy(4), 1);
        Check.men(one, 0, 1).row(38);
        Check.due("a TICK ahead of 20: rowBy(2)", one.rowBy(2), 8);
        Check.men(one, 0, 1).row(39);
        Check.due("at 20: rowBy(2)", one.rowBy(2), 16);
        bare.fire(1, 0, 0, 0);
        Check.due("still: 4 is too little to the west", bare.fireAt(0, 0, 1), 0);
        Check.due("still: 4 is too little to the east", bare.fireAt(2, 0, 1), 0);
    }

    /** A text that ends too early: the fault is at how many bytes there are. */
    private static void endsOfTexts() {
        String whole = "man al 1 1 1;way 20;pails 1 1;well 1 1;spill 1;back 1;throw 1;cells 12;burn 0 0;wind east;";
        PailRow x = new PailRow();
        int lines = 0;
        for (int length = 0; length <= whole.length(); length++) {
            String text = whole.substring(0, length);
            if (text.isEmpty() || text.endsWith(";")) {
                Check.dueYard(x, text, lines, 0);
                lines++;
            } else if (text.endsWith(" ")) {
                Check.dueYard(x, text, -1 - length, 1);
                Check.dueYard(x, text + "\n \n", -1 - length - 3, 1);
            }
        }
        Check.due("lines", lines, 11);
        Check.dueYard("way 20", -7, 1);
        Check.dueYard("way 20;", 1, 0);
        Check.dueYard("way 20; ", 1, 0);
        Check.dueYard("way 20;;", -8, 1);
        Check.dueYard("way 20;back", -12, 1);
    }

    private static void tooLong() {
        Check.dueYard(Check.padded("way 20;", 699), 1, 0);
        Check.dueYard(Check.padded("way 20;", 700), 1, 0);
        Check.dueYard(Check.padded("way 20;", 701), -701, 1);
        Check.dueYard(Check.padded("way 20;", 740), -701, 1);
        Check.dueYard(Check.padded("", 700), 0, 0);
        Check.dueYard(Check.padded("", 701), -701, 1);
        Check.dueYard(Check.padded("way 20", 699) + ";", 1, 0);
        Check.dueYard(Check.padded("way 20", 700) + ";", -701, 1);
        Check.dueYard(Check.padded("way 20", 700), -701, 1);
        Check.dueYard(Check.padded("way 20", 699), -700, 1);
        // A fault ahead is told, however long the text is.
        Check.dueYard(Check.padded("way 9;", 740), -5, 2);
        Check.dueYard(Check.padded("", 699) + "?" + " ".repeat(40), -700, 1);
        Check.dueYard(Check.padded("", 700) + "?" + " ".repeat(39), -701, 1);
        Check.dueYard(Check.padded("back 1;", 695) + "back 1;", -696, 3);
        Check.dueYard(Check.padded("back 1;", 699) + "back 1;", -700, 3);
        Check.dueYard(Check.padded("back 1;", 700) + "back 1;", -701, 1);
        Check.dueYard(Check.padded(Check.alike(12, 1), 699) + "man z 1 1 1;", -700, 4);
        Check.dueYard(Check.padded(Check.alike(12, 1), 700) + "man z 1 1 1;", -701, 1);
    }

    /** What begins ahead of the 700th byte is read whole. */
    private static void tokensAtTheEnd() {
        Check.dueYard(Check.padded("way", 698) + "20;", -701, 1);
        Check.dueYard(Check.padded("way", 697) + "20;", 1, 0);
        Check.dueYard(Check.padded("way", 699) + "20;", -701, 1);
        Check.dueYard(Check.padded("way", 699) + "9;", -700, 2);
        Check.dueYard(Check.padded("way", 699) + "00000020;", -701, 1);
        Check.dueYard(Check.padded("way", 699) + "000000020;", -700, 1);
        Check.dueYard(Check.padded("way", 699) + "100;", -700, 2);
        Check.dueYard(Check.padded("way", 700) + "9;", -701, 1);
        Check.dueYard(Check.padded("", 699) + "spill 5;", -701, 1);
        Check.dueYard(Check.padded("", 699) + "spilt 5;", -700, 1);
        Check.dueYard(Check.padded("man", 699) + "abcdef 1 1 1;", -701, 1);
        Check.dueYard(Check.padded("man", 699) + "abcdefg 1 1 1;", -700, 1);
        Check.dueYard(Check.padded("man a 1 1 1;man b 1 1 1;man", 699) + "ab 1 1 1;", -701, 1);
        Check.dueYard(Check.padded("man a 1 1 1;man ab 1 1 1;man", 699) + "ab 1 1 1;", -700, 3);
        Check.dueYard(Check.padded("", 699) + "x", -700, 1);
    }

    private static void twelveMen() {
        String twelve = Check.alike(12, 5);
        PailRow x = new PailRow();
        Check.dueYard(x, Check.alike(11, 5), 11, 0);
        Check.dueYard(x, twelve, 12, 0);
        Check.due("count(0)", x.count(0), 12);
        Check.due("man(11, 2)", x.man(11, 2), 5);
        Check.dueYard(x, twelve + "man z 1 1 1;", -1 - twelve.length(), 4);
        Check.dueYard(x, twelve + " man ma 1 1 1;", -2 - twelve.length(), 4);
        Check.dueYard(x, twelve + "man", -1 - twelve.length(), 4);
        Check.dueYard(x, twelve + "mani", -1 - twelve.length(), 1);
        Check.dueYard(x, twelve + "way 20;cells 1;", 14, 0);
        Check.due("count(0)", x.count(0), 12);
    }

    private static void eightRows() {
        String eight = "cells 11;".repeat(8);
        PailRow x = new PailRow();
        Check.dueYard(x, "cells 11;".repeat(7), 7, 0);
        Check.dueYard(x, eight, 8, 0);
        Check.due("count(2)", x.count(2), 8);
        Check.due("cell(1, 7, 0)", x.cell(1, 7, 0), 1);
        Check.dueYard(x, eight + "cells 11;", -1 - eight.length(), 4);
        Check.dueYard(x, eight + "cells 111;", -1 - eight.length(), 4);
        Check.dueYard(x, eight + "cells", -1 - eight.length(), 4);
        Check.dueYard(x, eight + "burn 0 7;man a 1 1 1;", 10, 0);
        Check.due("count(2)", x.count(2), 8);
    }

    private static void digits() {
        PailRow x = new PailRow();
        for (int columns = 1; columns <= 8; columns++) {
            String row = "cells " + "12345678".substring(0, columns) + ";";
            Check.dueYard(x, row + row, 2, 0);
            Check.due("count(1)", x.count(1), columns);
            Check.due("the most eastern", x.cell(columns - 1, 1, 0), columns);
            if (columns < 8) {
                Check.dueYard(x, row + "cells " + "0".repeat(columns + 1) + ";", -1 - row.length() - 6, 2);
            }
            if (columns > 1) {
                Check.dueYard(x, row + "cells " + "0".repeat(columns - 1) + ";", -1 - row.length() - 6, 2);
            }
            Check.dueYard(x, row + row + "cells 000000000;", -1 - 2 * row.length() - 6, 1);
        }
        Check.dueYard(x, "cells 0123456;cells 7890000;", 2, 0);
        int[] fuel = {0, 1, 2, 3, 4, 5, 6, 7, 8, 9, 0, 0, 0, 0};
        for (int i = 0; i < fuel.length; i++) {
            Check.due("cell " + i, x.cell(i % 7, i / 7, 0), fuel[i]);
        }
        Check.dueYard(x, "cells 00000000;", 1, 0);
        Check.due("count(1)", x.count(1), 8);
        Check.dueYard(x, "cells;", -6, 1);
        Check.dueYard(x, "cells a;", -7, 1);
    }

    private static void burning() {
        String barn = "cells 901;cells 110;";
        int at = barn.length();
        Check.dueYard(barn + "burn 0 0;", 3, 0);
        Check.dueYard(barn + "burn 2 0;", 3, 0);
        Check.dueYard(barn + "burn 0 1;", 3, 0);
        Check.dueYard(barn + "burn 1 1;", 3, 0);
        Check.dueYard(barn + "burn 3 0;", -1 - at - 5, 2);
        Check.dueYard(barn + "burn 3 9;", -1 - at - 5, 2);
        Check.dueYard(barn + "burn 0 2;", -1 - at - 7, 2);
        Check.dueYard(barn + "burn 1 0;", -1 - at - 7, 2);
        Check.dueYard(barn + "burn 2 1;", -1 - at - 7, 2);
        Check.dueYard(barn + "burn 99999999 0;", -1 - at - 5, 2);
        Check.dueYard(barn + "burn 0 99999999;", -1 - at - 7, 2);
        Check.dueYard(barn + "burn 00000002 00000000;", 3, 0);
        Check.dueYard(barn + "burn 0 0;burn 0 0;", -1 - at - 9 - 7, 3);
        Check.dueYard(barn + "burn 0 0;burn 0 1;burn 2 0;burn 1 1;", 6, 0);
        Check.dueYard(barn + "burn 0 0;burn 0 1;burn 2 0;burn 0 0;", -1 - at - 27 - 7, 3);
        Check.dueYard(barn + "burn 0;", -1 - at - 6, 1);
        Check.dueYard(barn + "burn a 0;", -1 - at - 5, 1);
        String eight = "cells 99999999;".repeat(8);
        Check.dueYard(eight + "burn 7 7;", 9, 0);
        Check.dueYard(eight + "burn 8 7;", -1 - eight.length() - 5, 2);
        Check.dueYard(eight + "burn 7 8;", -1 - eight.length() - 7, 2);
        Check.dueYard(eight + "burn 0 8;", -1 - eight.length() - 7, 2);
        Check.dueYard(eight + "burn 8 8;", -1 - eight.length() - 5, 2);
        // No CELL is told yet, and the second row only later.
        Check.dueYard("burn 0 0;cells 9;", -6, 2);
        Check.dueYard("cells 9;burn 0 1;cells 9;", -8 - 7 - 1, 2);
        Check.dueYard("cells 9;cells 9;burn 0 1;", 3, 0);
        Check.dueYard("cells 9;burn 0 0;cells 9;burn 0 1;", 4, 0);
    }

    /** All 64 CELLS can burn: 696 bytes. */
    private static void allBurn() {
        StringBuilder all = new StringBuilder("cells 12345678;".repeat(8));
        for (int i = 0; i < 64; i++) {
            all.append("burn ").append(i % 8).append(' ').append(i / 8).append(';');
        }
        PailRow x = new PailRow();
        Check.dueYard(x, all.toString(), 72, 0);
        int burning = 0;
        for (int i = 0; i < 64; i++) {
            burning += x.cell(i % 8, i / 8, 1);
        }
        Check.due("all burn", burning, 64);
        Check.due("fire(60, ..)", x.fire(60, 0, 0, 0), 8 * 36);
        Check.due("night(0, 2): those of FUEL 1 burn no more", x.night(0, 2), 56);
    }

    private static void onceOnly() {
        String[] once = {"way 20;", "pails 1 1;", "well 1 1;", "spill 1;", "back 1;", "throw 1;", "wind east;"};
        StringBuilder all = new StringBuilder();
        for (String line : once) {
            Check.dueYard(line, 1, 0);
            Check.dueYard(line + line, -1 - line.length(), 3);
            Check.dueYard(line + "man a 1 1 1; " + line, -1 - line.length() - 13, 3);
            String word = line.substring(0, line.indexOf(' '));
            Check.dueYard(line + word, -1 - line.length(), 3);
            Check.dueYard(line + word + " ?", -1 - line.length(), 3);
            all.append(line);
        }
        Check.dueYard(all.toString(), 7, 0);
        Check.dueYard("man a 1 1 1;cells 1;man b 1 1 1;cells 1;burn 0 0;burn 0 1;", 6, 0);
        Check.dueYard("man a 1 1 1;man b 1 1 1;man a 1 1 1;", -29, 3);
        Check.dueYard("man a 1 1 1;man b 1 1 1;man a", -29, 3);
        Check.dueYard("man a 1 1 1;man aa 1 1 1;man b 1 1 1;man bb 1 1 1;", 4, 0);
    }

    private static void winds() {
        for (String wind : new String[] {"north", "east", "south", "west"}) {
            Check.dueYard("wind " + wind + ";", 1, 0);
        }
        for (String word : new String[] {"still", "out", "a", "5", ";", "northe", "nort"}) {
            Check.dueYard("wind " + word + ";", -6, 1);
        }
        Check.dueYard("wind north east;", -12, 1);
        Check.dueYard("north;", -1, 1);
    }

    private static void firstFault() {
        Check.dueYard("way 9;way 9;?", -5, 2);
        Check.dueYard("way 20;way 9;?", -8, 3);
        Check.dueYard("man a 0 0 0;", -7, 2);
        Check.dueYard("man a 1 0 0;", -9, 2);
        Check.dueYard("pails 0 0;", -7, 2);
        Check.dueYard("well 31 10000;", -6, 2);
        Check.dueYard("cells 12;burn 2 1;", -15, 2);
        Check.dueYard("man a 1 1 1;man a 0 1 1;", -17, 3);
        Check.dueYard("? way 9;", -1, 1);
        for (int i = 0; i < TOLD.length; i++) {
            // The first ten begin a LINE.
            Check.dueYard(TOLD[i] + " ", i < 10 ? -2 - TOLD[i].length() : -1, 1);
        }
    }

    /** Of one TOKEN the least. */
    private static void leastFault() {
        // Not a TOKEN, and too great.
        Check.dueYard("way 999999999;", -5, 1);
        // A word told here can be no NAME, even behind twelve.
        Check.dueYard("man a 1 1 1;man man 1 1 1;", -17, 1);
        // A ninth row is fault 4 at 'cells', ahead of its digits.
        Check.dueYard("cells 1;".repeat(8) + "cells 123456789;", -65, 4);
        // A second row with another count of digits, and no TOKEN.
        Check.dueYard("cells 1;cells 123456789;", -15, 1);
        // Y: no FUEL (2) is less than burns already (3): a CELL without FUEL burns never.
        Check.dueYard("cells 10;burn 1 0;burn 1 0;", -17, 2);
    }

    private static void faultLeavesAll() {
        String barn = "man al 2 3 4;man bo 5 6 7;way 40;pails 9 9;cells 92;burn 1 0;";
        PailRow x = Check.yard(barn);
        Check.duePlan(x, "at 0 row al bo;", 1, 0);
        Check.dueSentence(x, "minute<7", 1, 0);
        int thrown = x.night(30, 0);
        Check.due("something is thrown", thrown > 0, true);
        String[] faulty = {"?", "man cy 1 1 1;man cy 1 1 1;", "way 9;", "cells 11;burn 0 0;cells 1;",
            Check.padded("man cy 1 1 1;way 10;pails 1 1;cells 1;burn 0 0;", 701)};
        for (String text : faulty) {
            Check.due("yard() of " + text.trim(), Check.tape(x, text).yard() < 0, true);
            int[] counts = {2, 2, 1, 9, 1, 0, 40};
            for (int what = 0; what < counts.length; what++) {
                Check.due("count(" + what + ") stays", x.count(what), counts[what]);
            }
            Check.due("man(1, 2) stays", x.man(1, 2), 7);
            Check.due("cell(1, 0, 0) stays", x.cell(1, 0, 0), 2);
            Check.due("cell(1, 0, 1) stays", x.cell(1, 0, 1), 1);
            Check.due("cell(0, 0, 1) stays", x.cell(0, 0, 1), 0);
            Check.due("the PLAN stays", x.night(30, 0), thrown);
            Check.due("the SENTENCE stays", x.said(PailRow.NONE), 7);
        }
    }

    private static void newYard() {
        String full = "man al 1 1 1;man bo 1 1 1;way 40;pails 9 9;well 1 500;spill 50;back 1;throw 9;cells 92;burn 1 0;"
                + "wind west;";
        PailRow x = Check.yard(full);
        Check.dueYard(x, full, 11, 0);
        Check.duePlan(x, "at 0 row al bo;", 1, 0);
        Check.dueSentence(x, "minute<7", 1, 0);
        Check.due("something is thrown", x.night(5, 0) > 0, true);
        Check.dueYard(x, "", 0, 0);
        int[] counts = {0, 0, 0, 6, 0, 0, 30};
        for (int what = 0; what < counts.length; what++) {
            Check.due("count(" + what + ") of an empty YARD", x.count(what), counts[what]);
        }
        Check.due("no PLAN: night(5, 0)", x.night(5, 0), 0);
        Check.due("a full well: night(5, 3)", x.night(5, 3), 9999);
        Check.due("no SENTENCE: said(-1)", x.said(PailRow.NONE), PailRow.NONE);
        Check.dueYard(x, full, 11, 0);
        Check.dueYard(x, "cells 99;", 1, 0);
        Check.due("cell(1, 0, 1)", x.cell(1, 0, 1), 0);
        Check.dueYard(x, full, 11, 0);
        Check.dueYard(x, "man al 1 1 9;man bo 1 1 9;cells 39;burn 0 0;", 4, 0);
        PailRow fresh = Check.yard("man al 1 1 9;man bo 1 1 9;cells 39;burn 0 0;");
        Check.due("row", Check.men(x, 0, 1).row(300), Check.men(fresh, 0, 1).row(300));
        for (int what = 0; what <= 5; what++) {
            Check.due("rowBy(" + what + ")", x.rowBy(what), fresh.rowBy(what));
        }
        Check.due("running", Check.men(x, 0, 1).running(300), Check.men(fresh, 0, 1).running(300));
        Check.due("fire", x.fire(9, 0, 0, 0), fresh.fire(9, 0, 0, 0));
        Check.due("period", Check.men(x, 0, 1).period(), Check.men(fresh, 0, 1).period());
    }

    /** "what other calls told last stays". */
    private static void latestStays() {
        PailRow x = Check.yard("man al 1 1 1;man bo 2 1 1;cells 95;burn 0 0;");
        Check.men(x, 0, 1).row(100);
        Check.men(x, 0, 1).best();
        Check.men(x, 0, 1).more(2);
        Check.men(x, 3, 9, 27).hooks(2);
        x.fire(3, 2, 1, 0);
        x.aims(1, 200);
        int[] before = latest(x);
        for (String yard : new String[] {"", "?", "man cy 9 9 9;cells 123;cells 456;burn 2 1;"}) {
            Check.tape(x, yard).yard();
            int[] behind = latest(x);
            for (int i = 0; i < before.length; i++) {
                Check.due("what was told last, " + i + ", behind yard " + yard, behind[i], before[i]);
            }
        }
    }

    private static int[] latest(PailRow x) {
        return new int[] {x.rowBy(0), x.rowBy(1), x.rowBy(2), x.rowBy(3), x.rowBy(4), x.rowBy(5), x.done(0), x.done(1),
            x.done(2), x.bestAt(0), x.bestAt(1), x.bestAt(2), x.moreAt(0), x.moreAt(1), x.moreAt(2), x.hookAt(0),
            x.hookAt(1), x.hookAt(2), x.fireAt(0, 0, 0), x.fireAt(1, 0, 0), x.fireAt(1, 0, 1), x.fireAt(0, 0, 2),
            x.fireAt(2, 0, 0), x.fireAt(0, 1, 0), x.out(), x.aimAt(0), x.aimAt(1)};
    }

    private static void men() {
        Check.promise(6);
        PailRow one = Check.yard("man al 9 8 7;");
        Check.dueRange("man(.., 0)", 0, 0, Check.NO_SUCH, m -> one.man(m, 0));
        Check.dueRange("man(0, ..)", 0, 2, Check.NO_SUCH, what -> one.man(0, what));
        Check.due("man(0, 0)", one.man(0, 0), 9);
        Check.due("man(0, 1)", one.man(0, 1), 8);
        Check.due("man(0, 2)", one.man(0, 2), 7);
        PailRow twelve = Check.yard(Check.alike(11, 3) + "man z 9 9 99;");
        for (int what = 0; what <= 2; what++) {
            int asked = what;
            Check.dueRange("man(.., " + what + ")", 0, 11, Check.NO_SUCH, m -> twelve.man(m, asked));
        }
        Check.due("man(11, 2)", twelve.man(11, 2), 99);
        Check.due("man(10, 2)", twelve.man(10, 2), 3);
        PailRow none = new PailRow();
        Check.dueNoSuch("man(0, 0) of none", () -> none.man(0, 0));
    }

    private static void cells() {
        Check.promise(7);
        PailRow one = Check.yard("cells 9;burn 0 0;");
        Check.dueRange("cell(.., 0, 0)", 0, 0, Check.NO_SUCH, c -> one.cell(c, 0, 0));
        Check.dueRange("cell(0, .., 0)", 0, 0, Check.NO_SUCH, y -> one.cell(0, y, 0));
        Check.dueRange("cell(0, 0, ..)", 0, 1, Check.NO_SUCH, what -> one.cell(0, 0, what));
        PailRow wide = Check.yard("cells 12345678;burn 7 0;");
        Check.dueRange("cell(.., 0, 1)", 0, 7, Check.NO_SUCH, c -> wide.cell(c, 0, 1));
        Check.dueRange("cell(7, .., 1)", 0, 0, Check.NO_SUCH, y -> wide.cell(7, y, 1));
        Check.due("cell(7, 0, 0)", wide.cell(7, 0, 0), 8);
        Check.due("cell(7, 0, 1)", wide.cell(7, 0, 1), 1);
        Check.due("cell(6, 0, 1)", wide.cell(6, 0, 1), 0);
        PailRow high = Check.yard("cells 10;".repeat(7) + "cells 09;burn 1 7;");
        Check.dueRange("cell(1, .., 0)", 0, 7, Check.NO_SUCH, y -> high.cell(1, y, 0));
        Check.dueRange("cell(.., 7, 0)", 0, 1, Check.NO_SUCH, c -> high.cell(c, 7, 0));
        Check.due("cell(1, 7, 0)", high.cell(1, 7, 0), 9);
        Check.due("cell(1, 7, 1)", high.cell(1, 7, 1), 1);
        Check.due("cell(1, 6, 0): no FUEL", high.cell(1, 6, 0), 0);
        high.fire(9, 0, 0, 0);
        Check.due("cell(1, 7, 0) as told", high.cell(1, 7, 0), 9);
        Check.due("cell(1, 7, 1) as told", high.cell(1, 7, 1), 1);
        PailRow none = new PailRow();
        Check.dueNoSuch("cell(0, 0, 0) of none", () -> none.cell(0, 0, 0));
    }
}
