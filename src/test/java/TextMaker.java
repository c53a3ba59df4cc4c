import java.util.Random;

/** Makes texts of halls, most of them right, some with a fault. */
final class TextMaker {
    private final Random random;
    private int marks;

    TextMaker(Random random) {
        this.random = random;
    }

    String text() {
        marks = 1 + random.nextInt(random.nextInt(4) == 0 ? 6 : 4);
        StringBuilder t = new StringBuilder("marks " + marks + ";");
        int chests = random.nextInt(random.nextInt(5) == 0 ? 15 : 8);
        int words = random.nextInt(random.nextInt(8) == 0 ? 8 : 6);
        int lamps = random.nextInt(random.nextInt(3) == 0 ? 9 : 4);
        int most = 1 + random.nextInt(random.nextBoolean() ? 9 : 4);
        while (chests + words + lamps > 0) {
            int k = random.nextInt(chests + words + lamps);
            if (k < chests) {
                t.append(random.nextInt(3) == 0 ? "spare" : "chest");
                for (int m = 0; m < marks; m++) {
                    t.append(' ').append(random.nextInt(most + 1));
                }
                chests--;
            } else if (k < chests + words) {
                t.append("word").append(random.nextBoolean() ? " sound" : "");
                t.append(random.nextBoolean() ? " cost " + (1 + random.nextInt(random.nextBoolean() ? 9 : 3)) : "");
                t.append(':').append(truth(random.nextInt(4)));
                words--;
            } else {
                t.append("lamp ").append(random.nextInt(marks)).append(' ').append(random.nextInt(most + 1));
                t.append(' ').append(random.nextInt(most + 1));
                lamps--;
            }
            t.append(random.nextInt(6) == 0 ? " ;\n " : ";");
            if (random.nextInt(12) == 0) {
                t.append("hire ").append(random.nextInt(10)).append(';');
            }
            if (random.nextInt(12) == 0) {
                t.append("people ").append(1 + random.nextInt(6)).append(';');
            }
        }
        return random.nextInt(4) == 0 ? spoilt(t) : t.toString();
    }

    /** Many CHESTS, each WORD a table of those for which it holds: few of them are alike. */
    String table() {
        StringBuilder t = new StringBuilder("marks 1;");
        int chests = 6 + random.nextInt(9);
        for (int c = 0; c < chests; c++) {
            t.append(random.nextInt(8) == 0 ? "spare 1;" : "chest 1;");
        }
        for (int w = 4 + random.nextInt(4); w > 0; w--) {
            t.append("word cost ").append(1 + random.nextInt(3)).append(":number<0");
            for (int c = 0; c < chests; c++) {
                t.append(random.nextBoolean() ? " or number=" + c : "");
            }
            t.append(';');
        }
        return t.toString();
    }

    private String spoilt(StringBuilder t) {
        String bits = ";:+-*()[]=<>\n 0123456789aboundm\t!A";
        String[] pieces = {"marks", "chest 1;", "word:", "not ", "not not not ", "[", "((((((", "]", ")", "1000",
            "sound ", "cost 2", "99", " 10 ", "or ", "and ", "has 3", "m 5", "sum", "number", "alike", "people 7;",
            "\u00e9", "lamp 0 1 2;lamp 0 1 2;lamp 0 1 2;lamp 0 1 2;lamp 0 1 2;", "word:1=1;word:1=1;word:1=1;word:1=1;",
            "spare 1;chest 1;chest 1;chest 1;chest 1;chest 1;chest 1;", "not[not[not[not 1=1]]]"};
        for (int k = random.nextInt(3); k >= 0; k--) {
            int at = random.nextInt(t.length() + 1);
            switch (random.nextInt(5)) {
                case 0:
                    t.setLength(at);
                    break;
                case 1:
                    t.insert(at, bits.charAt(random.nextInt(bits.length())));
                    break;
                case 2:
                    if (at < t.length()) {
                        t.setCharAt(at, bits.charAt(random.nextInt(bits.length())));
                    }
                    break;
                case 3:
                    if (at < t.length()) {
                        t.deleteCharAt(at);
                    }
                    break;
                default:
                    int next = t.indexOf(random.nextBoolean() ? ";" : " ", at);
                    t.insert(next < 0 ? at : next + 1, pieces[random.nextInt(pieces.length)]);
            }
        }
        return t.toString();
    }

    private String truth(int depth) {
        switch (depth == 0 ? 9 : random.nextInt(12)) {
            case 0: return truth(depth - 1) + " or " + truth(depth - 1);
            case 1: return truth(depth - 1) + " and " + truth(depth - 1);
            case 2: return "not " + unit(depth - 1);
            case 3: return "[" + truth(depth - 1) + "]";
            default: return compare();
        }
    }

    private String unit(int depth) {
        return random.nextBoolean() ? "[" + truth(depth) + "]" : compare();
    }

    private String compare() {
        String sign = "=<>".charAt(random.nextInt(3)) + "";
        if (random.nextBoolean()) {
            return "m " + random.nextInt(marks) + sign + random.nextInt(8);
        }
        return sum(random.nextInt(3)) + sign + sum(random.nextInt(2));
    }

    private String sum(int depth) {
        switch (depth == 0 ? 9 : random.nextInt(7)) {
            case 0: return sum(depth - 1) + "+" + sum(depth - 1);
            case 1: return sum(depth - 1) + "-" + sum(depth - 1);
            case 2: return sum(depth - 1) + "*" + sum(depth - 1);
            case 3: return "(" + sum(depth - 1) + ")";
            default: return atom();
        }
    }

    private String atom() {
        switch (random.nextInt(9)) {
            case 0: return "has " + random.nextInt(10);
            case 1: return "sum";
            case 2: return "alike";
            case 3: return "number";
            case 4: return "" + random.nextInt(random.nextBoolean() ? 1000 : 20);
            case 5: return "999*999*9";
            default: return "m " + random.nextInt(marks);
        }
    }
}
