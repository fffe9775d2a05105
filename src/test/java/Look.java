/** All that a hall answers to questions, as one text: what a refused call must leave as it was. */
final class Look {
    private final Wasmhall hall;
    private final StringBuilder all = new StringBuilder();

    private Look(Wasmhall hall) {
        this.hall = hall;
    }

    static String at(Wasmhall hall) {
        Look look = new Look(hall);
        look.texts();
        for (int p = 0; look.stands(p, 0); p++) {
            look.program(p);
        }
        for (int m = 0; look.stands(m, 1); m++) {
            look.module(m);
        }
        for (int r = 0; look.stands(r, 2); r++) {
            look.run(r);
        }
        return look.all.toString();
    }

    private void say(Object what) {
        all.append(what).append(' ');
    }

    /** Whether there is such a program, module or run. */
    private boolean stands(int number, int kind) {
        try {
            if (kind == 0) {
                hall.definitions(number);
            } else if (kind == 1) {
                hall.moduleAt(number, 0);
            } else {
                hall.runAt(number, 0);
            }
            return true;
        } catch (IndexOutOfBoundsException e) {
            return false;
        }
    }

    /** type() of zeros puts nothing behind the text, and tells its length. */
    private void texts() {
        say(hall.type(0, 0, 0, 0));
        say(hall.faultKind());
        say(hall.faultPlace());
        say(Kit.output(hall));
        say(hall.checksum());
        say(hall.meant(0));
        say(hall.meant(1));
        say(Kit.bytes(hall));
        say(hall.fault(true));
        say(hall.fault(false));
        say(hall.errors());
        say(hall.meanSteps());
    }

    private void program(int program) {
        all.append("\nprogram ");
        for (int d = 0; d < hall.definitions(program); d++) {
            say(hall.parameters(program, d));
        }
    }

    private void module(int module) {
        all.append("\nmodule ");
        for (int what = 0; what < 9; what++) {
            say(hall.moduleAt(module, what));
        }
        say(hall.countedShare(module));
        int imports = hall.moduleAt(module, 1);
        for (int f = 0; f < imports + hall.moduleAt(module, 2); f++) {
            for (int what = 0; what < 4; what++) {
                say(hall.functionAt(module, f, what));
            }
            say(f < imports ? "" : Kit.code(hall, module, f));
        }
    }

    private void run(int run) {
        all.append("\nrun ");
        for (int what = 0; what < 12; what++) {
            say(hall.runAt(run, what));
        }
        say(hall.runAt(run, 0) == 1 ? hall.word(run) : 0);
        for (int frame = 0; frame < hall.runAt(run, 2); frame++) {
            for (int local = 0; canAsk(run, frame, local); local++) {
                say(hall.localAt(run, frame, local));
            }
        }
        for (int depth = 0; canAsk(run, depth); depth++) {
            say(hall.stackAt(run, depth));
        }
        long sum = 17;
        for (int place = 0; place + 4 <= 1024 * hall.runAt(run, 4); place += 4) {
            sum = 31 * sum + hall.memoryAt(run, place);
        }
        say(sum);
    }

    private boolean canAsk(int run, int frame, int local) {
        try {
            hall.localAt(run, frame, local);
            return true;
        } catch (java.util.NoSuchElementException e) {
            return false;
        }
    }

    private boolean canAsk(int run, int depth) {
        try {
            hall.stackAt(run, depth);
            return true;
        } catch (java.util.NoSuchElementException e) {
            return false;
        }
    }
}
