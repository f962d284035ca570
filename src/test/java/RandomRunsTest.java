import java.util.Random;

/** Runs of 512 calls each, by a seed, on the class and on the plain form: both must answer the same. */
public final class RandomRunsTest {
    private static final int RUNS = 3000;
    private static final int CALLS = 512;
    private static final String GOOD_CODES = "wstb0123456789=!;";

    private final Random random;
    private final CarbonSheets real = new CarbonSheets();
    private final PlainForm plain = new PlainForm();
    // Runs differ in how many fields they use, how often they tear, and how often they ask for what is not there.
    private final int fields;
    private final int tears;
    private final int wild;
    private String toPut = "";

    private RandomRunsTest(long seed) {
        random = new Random(seed);
        fields = 1 + random.nextInt(10);
        tears = 1 + random.nextInt(12);
        wild = random.nextInt(3) == 0 ? 5 : 60;
    }

    public static void main(String[] args) {
        int wrong = 0;
        for (int seed = 1; seed <= RUNS && wrong < 5; seed++) {
            wrong += new RandomRunsTest(seed).run(seed);
        }
        System.out.println(wrong == 0 ? RUNS + " runs are as due" : wrong + " runs are not as due");
        if (wrong != 0) {
            System.exit(1);
        }
    }

    private int run(int seed) {
        for (int call = 0; call < CALLS; call++) {
            String said = random.nextInt(5) < 2 ? ask() : change();
            if (said != null) {
                System.out.println("run " + seed + ", call " + call + ": " + said);
                return 1;
            }
        }
        return 0;
    }

    private int number(int least, int most) {
        if (random.nextInt(wild) == 0) {
            int[] odd = {least - 1, most + 1, -1, Integer.MIN_VALUE, Integer.MAX_VALUE, random.nextInt()};
            return odd[random.nextInt(odd.length)];
        }
        return least + random.nextInt(most - least + 1);
    }

    private int field() {
        return number(0, fields - 1);
    }

    private int sheet() {
        return number(0, 4);
    }

    private int value() {
        return random.nextInt(3) == 0 ? number(0, 999) : number(0, 2);
    }

    private int pressure() {
        return number(1, 9);
    }

    private static String told(String call, int got, int want) {
        return got == want ? null : call + " answered " + got + ", due is " + want;
    }

    private String change() {
        int a = field();
        int b = value();
        int p = pressure();
        int s = sheet();
        switch (random.nextInt(20)) {
            case 0: {
                int setting = number(0, 1);
                int to = number(0, random.nextBoolean() ? 3 : 9);
                return told("set(" + setting + ", " + to + ")", real.set(setting, to), plain.set(setting, to));
            }
            case 1: {
                int to = number(0, 4);
                return told("thickness(" + s + ", " + to + ")", real.thickness(s, to), plain.thickness(s, to));
            }
            case 2: {
                int to = number(0, random.nextBoolean() ? 3 : 300);
                return told("carbon(" + s + ", " + to + ")", real.carbon(s, to), plain.carbon(s, to));
            }
            case 3:
            case 4:
                return told("strike(" + a + ", " + p + ")", real.strike(a, p), plain.strike(a, p));
            case 5:
                return told("paint(" + s + ", " + a + ")", real.paint(s, a), plain.paint(s, a));
            case 6:
            case 7:
                return told("amend(" + s + ", " + a + ", " + b + ", " + p + ")", real.amend(s, a, b, p), plain.amend(s, a, b, p));
            case 8: {
                if (random.nextInt(tears) != 0) {
                    return null;
                }
                int side = number(0, 1);
                return told("tear(" + side + ")", real.tear(side), plain.tear(side));
            }
            case 9:
            case 10:
            case 11:
            case 12:
                return text();
            case 13:
                return told("undo()", real.undo(), plain.undo());
            case 14: {
                int slot = number(0, 1);
                return told("save(" + slot + ")", real.save(slot), plain.save(slot));
            }
            case 15: {
                int slot = number(0, 1);
                return told("restore(" + slot + ")", real.restore(slot), plain.restore(slot));
            }
            default:
                return told("write(" + a + ", " + b + ", " + p + ")", real.write(a, b, p), plain.write(a, b, p));
        }
    }

    private String text() {
        switch (random.nextInt(12)) {
            case 0:
                toPut = "";
                return told("wipe()", real.wipe(), plain.wipe());
            case 1: {
                long odd = random.nextBoolean() ? random.nextLong() : random.nextLong() >>> random.nextInt(64);
                return told("put(" + odd + ")", real.put(odd), plain.put(odd));
            }
            case 2:
            case 3:
                return told("fault()", real.fault(), plain.fault());
            default:
                break;
        }
        if (toPut.isEmpty()) {
            String said = told("carryOut()", real.carryOut(), plain.carryOut());
            if (said == null) {
                said = told("wipe()", real.wipe(), plain.wipe());
            }
            toPut = someText();
            return said;
        }
        int size = Math.min(toPut.length(), 1 + random.nextInt(8));
        long characters = Forms.packed(toPut.substring(0, size));
        toPut = toPut.substring(size);
        return told("put(" + characters + ")", real.put(characters), plain.put(characters));
    }

    private String someText() {
        StringBuilder text = new StringBuilder();
        int orders = 1 + random.nextInt(random.nextInt(8) == 0 ? 14 : 4);
        for (int i = 0; i < orders; i++) {
            text.append(i == 0 ? "" : ";").append(someOrder());
        }
        if (random.nextInt(3) == 0) {
            int place = random.nextInt(text.length());
            char code = GOOD_CODES.charAt(random.nextInt(GOOD_CODES.length()));
            switch (random.nextInt(3)) {
                case 0: text.setCharAt(place, code); break;
                case 1: text.insert(place, code); break;
                default: text.deleteCharAt(place); break;
            }
        }
        return text.toString();
    }

    private String someOrder() {
        int field = random.nextInt(fields);
        switch (random.nextInt(3 + tears)) {
            case 0: return random.nextBoolean() ? "t" : "b";
            case 1: return "s" + field + "!" + (1 + random.nextInt(9));
            default: return "w" + field + "=" + random.nextInt(random.nextBoolean() ? 3 : 1000) + "!" + (1 + random.nextInt(9));
        }
    }

    private String ask() {
        int s = sheet();
        int o = sheet();
        int f = field();
        int v = value();
        int p = pressure();
        switch (random.nextInt(11)) {
            case 0: {
                int what = number(0, 7);
                return told("ofSheet(" + s + ", " + what + ")", real.ofSheet(s, what), plain.ofSheet(s, what));
            }
            case 1: {
                int what = number(0, 4);
                return told("reading(" + s + ", " + f + ", " + what + ")", real.reading(s, f, what), plain.reading(s, f, what));
            }
            case 2: {
                int mark = number(0, 7);
                int what = number(0, 2);
                return told("ofMark(" + s + ", " + f + ", " + mark + ", " + what + ")",
                    real.ofMark(s, f, mark, what), plain.ofMark(s, f, mark, what));
            }
            case 3: {
                int what = number(0, 4);
                return told("together(" + f + ", " + what + ")", real.together(f, what), plain.together(f, what));
            }
            case 4:
            case 5: {
                int what = number(0, 9);
                return told("count(" + what + ")", real.count(what), plain.count(what));
            }
            case 6:
                return told("differ(" + s + ", " + o + ")", real.differ(s, o), plain.differ(s, o));
            case 7:
                return told("enoughFor(" + s + ")", real.enoughFor(s), plain.enoughFor(s));
            case 8:
                return told("strikeFor(" + f + ")", real.strikeFor(f), plain.strikeFor(f));
            case 9:
                return told("lasts(" + p + ")", real.lasts(p), plain.lasts(p));
            default:
                return told("ifWritten(" + f + ", " + v + ", " + p + ")", real.ifWritten(f, v, p), plain.ifWritten(f, v, p));
        }
    }
}
