import java.util.ArrayDeque;
import java.util.ArrayList;
import java.util.Deque;
import java.util.List;

/** Section 7 anew: finds the first instruction that is not VALID. */
final class TwinValid {
    private static final class NotValid extends RuntimeException {
        private static final long serialVersionUID = 1;

        NotValid() {
            super(null, null, false, false);
        }
    }

    /** A block: f the function itself, b block, l loop, i if, e an if behind its else. */
    private static final class Block {
        char sort;
        final boolean hasValue;
        final int height;
        boolean isDead;

        Block(char sort, boolean hasValue, int height) {
            this.sort = sort;
            this.hasValue = hasValue;
            this.height = height;
        }
    }

    private final TwinModule module;
    private final int locals;
    private final Deque<Block> blocks = new ArrayDeque<>();
    private int height;

    private TwinValid(TwinModule module, int function) {
        this.module = module;
        locals = module.typeOf(function).parameters() + module.codeOf(function).locals();
        blocks.push(new Block('f', module.typeOf(function).hasValue(), 0));
    }

    /** Throws a fault of kind 3, if there is one. */
    static void hold(TwinModule module) {
        for (int f = module.imports.size(); f < module.functionCount(); f++) {
            TwinValid valid = new TwinValid(module, f);
            List<TwinModule.Op> ops = module.codeOf(f).ops();
            for (int i = 0; i < ops.size(); i++) {
                try {
                    valid.look(ops.get(i));
                } catch (NotValid notValid) {
                    throw new TwinText.Fault(3, 10000 * f + i);
                }
            }
        }
    }

    private static void need(boolean holds) {
        if (!holds) {
            throw new NotValid();
        }
    }

    private void take(int many) {
        for (int i = 0; i < many; i++) {
            if (height > blocks.peek().height) {
                height--;
            } else {
                need(blocks.peek().isDead);
            }
        }
    }

    private void change(int taken, int put) {
        take(taken);
        height += put;
    }

    private void die() {
        blocks.peek().isDead = true;
        height = blocks.peek().height;
    }

    private Block blockOut(long out) {
        need(out < blocks.size());
        return new ArrayList<>(blocks).get((int) out);
    }

    private static int valuesOf(Block block) {
        return block.hasValue && block.sort != 'l' ? 1 : 0;
    }

    private void look(TwinModule.Op op) {
        switch (op.code()) {
            case 0:
                die();
                break;
            case 1:
                break;
            case 2: case 3: case 4:
                take(op.code() == 4 ? 1 : 0);
                blocks.push(new Block(" bli".charAt(op.code() - 1), op.with() == 127, height));
                break;
            case 5:
                need(blocks.peek().sort == 'i');
                closeBlock();
                blocks.peek().sort = 'e';
                blocks.peek().isDead = false;
                break;
            case 11:
                closeBlock();
                Block closed = blocks.pop();
                need(closed.sort != 'i' || !closed.hasValue);
                height += closed.hasValue ? 1 : 0;
                break;
            case 12:
                take(valuesOf(blockOut(op.with())));
                die();
                break;
            case 13:
                take(1);
                int values = valuesOf(blockOut(op.with()));
                change(values, values);
                break;
            case 15:
                take(valuesOf(blocks.peekLast()));
                die();
                break;
            case 16:
                need(op.with() < module.functionCount());
                call(module.typeOf((int) op.with()));
                break;
            case 17:
                need(module.table != null && op.with() < module.types.size());
                take(1);
                call(module.types.get((int) op.with()));
                break;
            default:
                lookAtPlain(op);
                break;
        }
    }

    private void closeBlock() {
        Block block = blocks.peek();
        int above = height - block.height;
        need(above == (block.hasValue ? 1 : 0) || block.isDead && above == 0);
        height = block.height;
    }

    private void call(TwinModule.Type type) {
        change(type.parameters(), type.hasValue() ? 1 : 0);
    }

    private void lookAtPlain(TwinModule.Op op) {
        int code = op.code();
        if (code >= 32 && code <= 34) {
            need(op.with() < locals);
        }
        if (code == 40 || code == 54 || code == 63 || code == 64) {
            need(module.memory != null);
        }
        switch (code) {
            case 26: case 33:
                take(1);
                break;
            case 27:
                change(3, 1);
                break;
            case 32: case 63: case 65:
                change(0, 1);
                break;
            case 34: case 40: case 64: case 69:
                change(1, 1);
                break;
            case 54:
                take(2);
                break;
            default:
                change(2, 1);
                break;
        }
    }
}
