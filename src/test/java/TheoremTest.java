/**
 * Promises 38 and 39 on texts put together by chance: the meaning and both modules agree, the modules are valid and the
 * same when they are written and read, and a value that is given back leaves no cell in use.
 */
public final class TheoremTest {
    private static final Kit KIT = new Kit();
    private static final int[] NUMBERS = {0, 3, -1, 1073741823};
    private static int ended;
    private static int stopped;

    public static void main(String[] args) {
        long many = args.length > 0 ? Long.parseLong(args[0]) : 1500;
        int tooLong = 0;
        for (long seed = 0; seed < many; seed++) {
            String text = new RandomTexts(seed).text();
            if (text.length() > 800) {
                tooLong++;
            } else {
                hold(text);
            }
        }
        System.out.println(tooLong + " too long, " + ended + " runs ended, " + stopped + " stopped");
        KIT.due("most texts are short enough", tooLong < many / 2, true);
        KIT.end();
    }

    private static void hold(String text) {
        Wasmhall hall = new Wasmhall();
        Kit.put(hall, text);
        KIT.due("faultKind of " + text, hall.faultKind(), 0);
        KIT.due("faultPlace of " + text, hall.faultPlace(), -1);
        if (hall.faultKind() != 0) {
            return;
        }
        hall.load();
        hall.make(0, 0);
        hall.make(0, 1);
        for (int level = 0; level < 2; level++) {
            hall.write(level);
            KIT.due("read() of level " + level + " of " + text, hall.read(), 2 + level);
            KIT.due("same() of level " + level + " of " + text, hall.same(level, 2 + level), true);
        }
        int last = hall.definitions(0) - 1;
        for (int number : NUMBERS) {
            both(hall, text, last, number);
        }
        KIT.due("errors() of " + text, hall.errors(), 0);
    }

    private static void both(Wasmhall hall, String text, int definition, int number) {
        int how = hall.mean(0, definition, number, 2, number);
        String due = Kit.output(hall);
        for (int level = 0; level < 2; level++) {
            String what = " of level " + level + " with " + number + " of " + text;
            int agreed = hall.agree(0, definition, level, number, 2, number);
            int run = hall.begin(level, definition, number, 2, number);
            hall.step(run, 20000);
            int state = hall.runAt(run, 0);
            KIT.due("the state" + what, state == 5 || state == 7 || state == 2, false);
            if (how == 2 || state == 0 || state == 4 || state == 6) {
                stopped++;
                KIT.due("agree()" + what, agreed, 2);
            } else {
                ended++;
                KIT.due("agree()" + what, agreed, 1);
                KIT.due("the state by the meaning" + what, state, how == 1 ? 3 : 1);
            }
            if (state == 1) {
                hall.value(run);
                if (how == 0) {
                    KIT.due("the value" + what, Kit.output(hall), due);
                }
                int cells = hall.runAt(run, 5);
                KIT.due("errors()" + what, hall.errors(), 0);
                KIT.due("giveBack()" + what, hall.giveBack(run), cells);
                KIT.due("cells left" + what, hall.runAt(run, 5), 0);
            }
            KIT.due("errors()" + what, hall.errors(), 0);
            hall.dropRun(run);
        }
    }
}
