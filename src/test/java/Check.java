/** Counts answers that are not as due, and tells texts to an object. */
final class Check {
    private static int wrong = 0;
    private static int looked = 0;

    private Check() {
    }

    static void due(String call, long got, long want) {
        looked++;
        if (got != want) {
            wrong++;
            System.out.println(call + " answered " + got + ", due is " + want);
        }
    }

    static void due(String call, boolean got, boolean want) {
        due(call, got ? 1L : 0L, want ? 1L : 0L);
    }

    /** Puts a text on the tape, behind what is there. */
    static void tape(HungFloors x, String text) {
        int before = x.about(4);
        int[] numbers = new int[5];
        for (int start = 0; start < text.length(); start += 20) {
            for (int i = 0; i < 5; i++) {
                numbers[i] = 0;
                for (int b = 0; b < 4; b++) {
                    int at = start + 4 * i + b;
                    numbers[i] = numbers[i] << 8 | (at < text.length() ? text.charAt(at) & 255 : ' ');
                }
            }
            x.feed(numbers[0], numbers[1], numbers[2], numbers[3], numbers[4]);
        }
        x.end(before + text.length());
    }

    static int tell(HungFloors x, String text) {
        tape(x, text);
        return x.house();
    }

    static HungFloors of(String text) {
        HungFloors x = new HungFloors();
        if (tell(x, text) < 0) {
            due("house() of " + text, -1, 0);
        }
        return x;
    }

    static void finish() {
        System.out.println(wrong == 0 ? looked + " answers are as due" : wrong + " answers are not as due");
        if (wrong != 0 || looked == 0) {
            System.exit(1);
        }
    }
}
