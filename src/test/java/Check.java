/** Compares answers with those that are due, prints the wrong ones, and ends the program. */
final class Check {
    interface Call {
        long answer();
    }

    interface Act {
        void run();
    }

    private int looked = 0;
    private int wrong = 0;
    private String place = "";

    /** What is told from now on begins with this. */
    void at(String where) {
        place = where;
    }

    void is(String what, long due, long got) {
        looked++;
        if (got != due) {
            tell(what + " answered " + got + ", due is " + due);
        }
    }

    void same(String what, String due, String got) {
        looked++;
        if (!got.equals(due)) {
            tell(what + " answered " + got + ", due is " + due);
        }
    }

    void answers(String what, long due, Call call) {
        try {
            is(what, due, call.answer());
        } catch (RuntimeException e) {
            looked++;
            tell(what + " threw " + e + ", due is " + due);
        }
    }

    void fails(String what, Class<? extends RuntimeException> due, Act act) {
        looked++;
        try {
            act.run();
            tell(what + " threw nothing, due is " + due.getSimpleName());
        } catch (RuntimeException e) {
            if (e.getClass() != due) {
                tell(what + " threw " + e + ", due is " + due.getSimpleName());
            } else if (!e.getStackTrace()[0].getClassName().startsWith("BulletinOffice")) {
                tell(what + " was refused by the library, due is a throw statement of the program");
            }
        }
    }

    void tell(String line) {
        wrong++;
        if (wrong <= 50) {
            System.out.println(place + line);
        }
    }

    void end(String name) {
        System.out.println(name + ": looked at " + looked + " answers, " + wrong + " wrong");
        if (wrong != 0) {
            System.exit(1);
        }
    }
}
