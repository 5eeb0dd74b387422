import java.nio.charset.StandardCharsets;

/** What the tests share: counting wrong answers, and bringing a text onto the tape. */
final class Check {
    private static int wrong = 0;

    private Check() {
    }

    static void due(String what, long got, long want) {
        if (got != want) {
            wrong++;
            System.out.println(what + " answered " + got + ", due is " + want);
        }
    }

    static void due(String what, boolean holds) {
        due(what, holds ? 1 : 0, 1);
    }

    static int wrongSoFar() {
        return wrong;
    }

    static void finish() {
        System.out.println(wrong == 0 ? "all answers are as due" : wrong + " answers are not as due");
        if (wrong != 0) {
            System.exit(1);
        }
    }

    /** The tape, empty before, then holds just this text. */
    static void write(CrownTable house, String text) {
        byte[] bytes = text.getBytes(StandardCharsets.ISO_8859_1);
        for (int from = 0; from < bytes.length; from += 20) {
            house.feed(four(bytes, from), four(bytes, from + 4), four(bytes, from + 8),
                four(bytes, from + 12), four(bytes, from + 16));
        }
        due("end of: " + text, house.end(bytes.length), bytes.length);
    }

    static int four(byte[] bytes, int from) {
        int number = 0;
        for (int i = from; i < from + 4; i++) {
            number = number << 8 | (i < bytes.length ? bytes[i] & 255 : '?');
        }
        return number;
    }

    static int read(CrownTable house, String text) {
        write(house, text);
        return house.text();
    }

    /** A house in which this text is in force from the beginning. */
    static CrownTable houseWith(String text) {
        CrownTable house = new CrownTable();
        due("reading: " + text, read(house, text), 0);
        due("force of: " + text, house.force(0, 0), 1);
        return house;
    }

    static void terms(CrownTable house, int many) {
        for (int i = 0; i < many; i++) {
            house.term();
        }
    }

    /** 400 farms of 1000 are owed by person 0, of TERMS 2 to 100; no more will fall due. */
    static void fourHundredFarms(CrownTable house) {
        for (int shire = 0; shire < 8; shire++) {
            house.shire(shire, 1000, 0);
        }
        terms(house, 100);
        due("debts of a hundred terms", house.count(0), 400);
        for (int shire = 0; shire < 8; shire++) {
            house.shire(shire, 0, 0);
        }
    }
}
