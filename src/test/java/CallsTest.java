import java.util.NoSuchElementException;
import java.util.Random;

/** All promises: any calls in any order throw what the document lists for them, and nothing else; questions change nothing. */
public final class CallsTest {
    private static final Kit KIT = new Kit();
    private static final int HALLS = 250;
    private static final int CALLS = 512;
    private static final int INDEX = 1;
    private static final int STATE = 2;
    private static final int ARGUMENT = 4;
    private static final int ELEMENT = 8;
    private static final String[] TEXTS = {"def f x = [x, x * 2];", "def f n = if n < 1 then [] else n : f (n - 1);",
        "def f a b = fun c -> (a / b, c);", "def f x = f (x + 1);", "def f x y z = (x % y, [z]);", "def f x = 1 + yes;",
        "def f = ", "def f p = case p of (x, y) -> x y end; def g n = f (fun y -> y + n, 3);", "def f x = y;", " "};
    private final Random random;
    private final Wasmhall hall = new Wasmhall();

    private CallsTest(long seed) {
        random = new Random(seed);
    }

    public static void main(String[] args) {
        for (int i = 0; i < HALLS; i++) {
            CallsTest test = new CallsTest(i);
            for (int k = 0; k < CALLS; k++) {
                test.call();
            }
            KIT.due("errors() of hall " + i, test.hall.errors(), 0);
        }
        KIT.end();
    }

    /** Mostly a small number, sometimes an extreme one. */
    private int some(int small) {
        switch (random.nextInt(12)) {
            case 0:
                return -1;
            case 1:
                return new int[] {Integer.MIN_VALUE, Integer.MAX_VALUE, 1073741823, -1073741824, 1073741824, 20000,
                    20001}[random.nextInt(7)];
            default:
                return random.nextInt(small);
        }
    }

    private void call() {
        int which = random.nextInt(48);
        int allowed = allowed(which);
        String before = isQuestion(which) ? look() : null;
        int thrown = 0;
        try {
            make(which);
        } catch (IndexOutOfBoundsException e) {
            thrown = e.getClass() == IndexOutOfBoundsException.class ? INDEX : 16;
        } catch (IllegalStateException e) {
            thrown = STATE;
        } catch (IllegalArgumentException e) {
            thrown = ARGUMENT;
        } catch (NoSuchElementException e) {
            thrown = ELEMENT;
        } catch (RuntimeException e) {
            thrown = 16;
        }
        KIT.due("what call " + which + " throws beside its list", thrown & ~allowed, 0);
        if (before != null) {
            KIT.due("what question " + which + " changes", look(), before);
        }
    }

    private String look() {
        StringBuilder text = new StringBuilder();
        text.append(hall.checksum()).append(' ').append(hall.faultKind()).append(' ').append(hall.faultPlace());
        text.append(' ').append(hall.fault(true)).append(' ').append(hall.fault(false)).append(' ').append(hall.meant(0));
        text.append(' ').append(hall.byteAt(0)).append(' ').append(hall.byteAt(100)).append(' ').append(hall.meanSteps());
        for (int i = 0; i < 3; i++) {
            try {
                text.append(' ').append(hall.moduleAt(i, 5)).append(' ').append(hall.runAt(i, 1));
                text.append(' ').append(hall.runAt(i, 0)).append(' ').append(hall.runAt(i, 6));
            } catch (IndexOutOfBoundsException e) {
                text.append(" -");
            }
        }
        return text.toString();
    }

    private static boolean isQuestion(int which) {
        switch (which) {
            case 4: case 5: case 8: case 9: case 11: case 13: case 15: case 16: case 17: case 18: case 21: case 25: case 26:
            case 30: case 31: case 34: case 35: case 36: case 38: case 39: case 40: case 41: case 42:
                return true;
            default:
                return false;
        }
    }

    /** The exceptions that the document lists for a call. */
    private static int allowed(int which) {
        switch (which) {
            case 0: case 7: case 24:
                return STATE;
            case 1: case 19:
                return STATE | ARGUMENT;
            case 13: case 23:
                return ARGUMENT;
            case 8: case 9: case 10: case 26: case 37: case 42:
                return INDEX;
            case 15: case 16: case 17: case 18: case 22: case 30: case 36:
                return INDEX | ARGUMENT;
            case 12: case 14: case 28: case 29: case 38:
                return INDEX | STATE | ARGUMENT;
            case 20:
                return INDEX | STATE;
            case 31: case 32: case 33: case 34: case 35:
                return INDEX | ELEMENT;
            default:
                return 0;
        }
    }

    private void make(int which) {
        switch (which) {
            case 0:
                hall.type(random.nextLong() & 0x7f7f7f7fL, 0, 0x20L, 0);
                break;
            case 1:
                hall.piece(some(8));
                break;
            case 2:
                hall.clearText();
                break;
            case 4:
                hall.faultKind();
                break;
            case 5:
                hall.faultPlace();
                break;
            case 7:
                hall.load();
                break;
            case 8:
                hall.definitions(some(3));
                break;
            case 9:
                hall.parameters(some(3), some(4));
                break;
            case 10:
                hall.typeOf(some(3), some(4));
                break;
            case 11:
                hall.output(some(30));
                break;
            case 12:
                hall.mean(some(3), some(3), some(9), some(9), some(9));
                break;
            case 13:
                hall.meant(some(2));
                break;
            case 14:
                hall.make(some(3), some(2));
                break;
            case 15:
                hall.moduleAt(some(3), some(9));
                break;
            case 16:
                hall.functionAt(some(3), some(9), some(4));
                break;
            default:
                makeMore(which);
                break;
        }
    }

    private void makeMore(int which) {
        switch (which) {
            case 17:
                hall.opAt(some(3), some(9), some(20), some(2));
                break;
            case 18:
                hall.countOf(some(3), some(120));
                break;
            case 19:
                hall.bytes(random.nextLong(), some(9));
                break;
            case 20:
                hall.write(some(3));
                break;
            case 21:
                hall.byteAt(some(900));
                break;
            case 22:
                hall.setByte(some(900), some(256));
                break;
            case 23:
                hall.cutBytes(some(900));
                break;
            case 24:
                hall.read();
                break;
            case 25:
                hall.fault(random.nextBoolean());
                break;
            case 26:
                hall.same(some(3), some(3));
                break;
            case 27:
                if (random.nextInt(5) == 0) {
                    hall.clearModules();
                }
                break;
            case 28:
                hall.begin(some(3), some(3), some(9), some(9), some(9));
                break;
            case 29:
                hall.step(some(3), random.nextInt(4) == 0 ? some(20000) : some(40));
                break;
            case 30:
                hall.runAt(some(3), some(12));
                break;
            case 31:
                hall.word(some(3));
                break;
            case 32:
                hall.value(some(3));
                break;
            case 33:
                hall.giveBack(some(3));
                break;
            default:
                makeLast(which);
                break;
        }
    }

    private void makeLast(int which) {
        switch (which) {
            case 34:
                hall.stackAt(some(3), some(4));
                break;
            case 35:
                hall.localAt(some(3), some(3), some(4));
                break;
            case 36:
                hall.memoryAt(some(3), some(2048));
                break;
            case 37:
                hall.dropRun(some(3));
                break;
            case 38:
                hall.agree(some(3), some(3), some(2), some(9), some(9), some(9));
                break;
            case 39:
                hall.errors();
                break;
            case 40:
                hall.checksum();
                break;
            case 41:
                hall.meanSteps();
                break;
            case 42:
                hall.countedShare(some(3));
                break;
            default:
                String text = TEXTS[random.nextInt(TEXTS.length)];
                if (hall.clearText() >= 0) {
                    Kit.put(hall, text);
                }
                break;
        }
    }
}
