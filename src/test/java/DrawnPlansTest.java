import java.util.ArrayList;
import java.util.List;
import java.util.Random;
import java.util.regex.Matcher;
import java.util.regex.Pattern;

/** Promises 17 and 18 upon drawn texts, many of them spoiled, against a reading by the library's patterns. */
public final class DrawnPlansTest {
    private static final Due DUE = new Due();
    private static final Random DRAWS = new Random(20261118L);
    private static final String[] WORDS = {"desk", "tube", "capsule", "shut", "open", "pressure"};
    private static final int[] NUMBERS = {0, 4, 4, 1, 1, 1};
    private static final String SIGNS = "0123456789 ;deskatubcplhonrx";
    private static final Pattern NUMBER = Pattern.compile("[0-9][0-9]?");
    private static final int LONGEST = 160;

    private final TubesOfCourt x = new TubesOfCourt();
    private int desks = 0;
    private List<int[]> tubes = new ArrayList<>();
    private List<int[]> capsules = new ArrayList<>();
    private int pressure = 5;
    private int items = 0;
    private int fault = -1;

    public static void main(String[] args) {
        int stood = 0;
        int fell = 0;
        for (int i = 0; i < 4000; i++) {
            DrawnPlansTest court = new DrawnPlansTest();
            for (int k = 0; k < 3; k++) {
                court.tell(court.drawText());
                stood += court.fault < 0 ? 1 : 0;
                fell += court.fault < 0 ? 0 : 1;
            }
        }
        DUE.holds("many stood: " + stood, stood > 2000);
        DUE.holds("many fell: " + fell, fell > 2000);
        DUE.end();
    }

    private void tell(String text) {
        List<int[]> tubesAhead = copyOf(tubes);
        List<int[]> capsulesAhead = copyOf(capsules);
        int desksAhead = desks;
        int pressureAhead = pressure;
        fault = read(text);
        if (fault >= 0) {
            tubes = tubesAhead;
            capsules = capsulesAhead;
            desks = desksAhead;
            pressure = pressureAhead;
        }
        Due.putText(x, 0, text);
        DUE.is("plan of '" + text + "'", x.plan(0), fault < 0 ? items : -6);
        DUE.is("fault of '" + text + "'", x.fault(), fault);
        stands(text);
    }

    private static List<int[]> copyOf(List<int[]> rows) {
        List<int[]> copies = new ArrayList<>();
        for (int[] row : rows) {
            copies.add(row.clone());
        }
        return copies;
    }

    private void stands(String text) {
        DUE.is("desks behind '" + text + "'", x.status(0), desks);
        DUE.is("tubes behind '" + text + "'", x.status(1), tubes.size());
        DUE.is("capsules behind '" + text + "'", x.status(2), capsules.size());
        DUE.is("pressure behind '" + text + "'", x.status(3), pressure);
        for (int t = 0; t < tubes.size(); t++) {
            for (int what = 0; what <= 4; what++) {
                DUE.is("tube " + t + " behind '" + text + "'", x.tubeOf(t, what), tubes.get(t)[what]);
            }
        }
        for (int c = 0; c < capsules.size(); c++) {
            for (int what = 0; what <= 3; what++) {
                DUE.is("capsule " + c + " behind '" + text + "'", x.capsuleOf(c, what), capsules.get(c)[what]);
            }
        }
    }

    /** The fault, or -1; what is read is told to this object's own lists as it goes. */
    private int read(String text) {
        int place = 0;
        for (items = 1; ; items++) {
            int word = -1;
            int alike = 0;
            for (int w = 0; w < WORDS.length; w++) {
                alike = Math.max(alike, alike(text, place, WORDS[w]));
                word = text.startsWith(WORDS[w], place) ? w : word;
            }
            if (word < 0) {
                return place + alike;
            }
            if (word == 0 && desks == 8 || word == 1 && tubes.size() == 16 || word == 2 && capsules.size() == 5) {
                return place;
            }
            place += WORDS[word].length();
            int[] told = new int[5];
            for (int i = 0; i < NUMBERS[word]; i++) {
                if (!text.startsWith(" ", place)) {
                    return place;
                }
                place++;
                Matcher number = NUMBER.matcher(text).region(place, text.length());
                if (!number.lookingAt()) {
                    return place;
                }
                told[i] = Integer.parseInt(number.group());
                if (!may(word, i, told)) {
                    return place;
                }
                place = number.end();
            }
            stand(word, told);
            if (place == text.length()) {
                return -1;
            }
            if (text.charAt(place) != ';') {
                return place;
            }
            place++;
        }
    }

    private static int alike(String text, int place, String word) {
        int n = 0;
        while (n < word.length() && text.startsWith(word.substring(0, n + 1), place)) {
            n++;
        }
        return n;
    }

    private boolean may(int word, int i, int[] told) {
        int v = told[i];
        boolean toNine = v >= 1 && v <= 9;
        if (word == 1) {
            return i > 1 ? toNine : v < desks && (i == 0 || v != told[0]);
        }
        if (word == 2) {
            return i == 0 ? v <= 6 : i == 1 ? v <= 9 : i == 2 ? toNine : v < desks;
        }
        return word == 5 ? toNine : v < tubes.size();
    }

    private void stand(int word, int[] told) {
        if (word == 0) {
            desks++;
        } else if (word == 1) {
            tubes.add(told);
        } else if (word == 2) {
            capsules.add(told);
        } else if (word == 5) {
            pressure = told[0];
        } else {
            tubes.get(told[0])[4] = word == 3 ? 1 : 0;
        }
    }

    /** Items that mostly may be; half of the texts have one sign put, changed or taken, or end too early. */
    private String drawText() {
        StringBuilder text = new StringBuilder();
        int[] there = {desks, tubes.size(), capsules.size()};
        for (int i = 1 + DRAWS.nextInt(7); i > 0; i--) {
            int word = drawWord(there);
            text.append(text.length() == 0 ? "" : ";").append(WORDS[word]);
            int first = -1;
            for (int k = 0; k < NUMBERS[word]; k++) {
                int value = DRAWS.nextInt(60) == 0 ? DRAWS.nextInt(101) : drawNumber(word, k, there, first);
                first = k == 0 ? value : first;
                text.append(DRAWS.nextInt(9) == 0 && value < 10 ? " 0" : " ").append(value);
            }
            if (word < there.length) {
                there[word]++;
            }
        }
        text.setLength(Math.min(text.length(), LONGEST - 1));
        spoil(text);
        return text.toString();
    }

    /** Seldom one for which there is no room, or nothing to name. */
    private static int drawWord(int[] there) {
        if (DRAWS.nextInt(20) == 0) {
            return DRAWS.nextInt(WORDS.length);
        }
        if (there[0] < 2 || there[0] < 8 && DRAWS.nextInt(4) == 0) {
            return 0;
        }
        if (there[1] == 0 || there[1] < 16 && DRAWS.nextInt(3) == 0) {
            return 1;
        }
        return there[2] < 5 && DRAWS.nextInt(3) == 0 ? 2 : 3 + DRAWS.nextInt(3);
    }

    private static int drawNumber(int word, int k, int[] there, int first) {
        if (word == 1 && k < 2 || word == 2 && k == 3) {
            int desk = DRAWS.nextInt(Math.max(1, there[0]));
            return desk == first && word == 1 ? (desk + 1) % Math.max(1, there[0]) : desk;
        }
        if (word == 3 || word == 4) {
            return DRAWS.nextInt(Math.max(1, there[1]));
        }
        return word == 2 && k == 0 ? DRAWS.nextInt(7) : 1 + DRAWS.nextInt(9);
    }

    private static void spoil(StringBuilder text) {
        int place = DRAWS.nextInt(text.length());
        char sign = SIGNS.charAt(DRAWS.nextInt(SIGNS.length()));
        switch (DRAWS.nextInt(8)) {
            case 0:
                text.setCharAt(place, sign);
                break;
            case 1:
                text.insert(place, sign);
                break;
            case 2:
                text.deleteCharAt(place);
                break;
            case 3:
                text.setLength(place);
                break;
            default:
                break;
        }
    }
}
