import java.util.ArrayList;
import java.util.List;

/** The KINDS of FLAILS as classes that Java itself sorts out. */
final class JavaFlails {
    /** Numbers of the bodies that ran in the latest act, as they began. */
    static final List<Integer> RAN = new ArrayList<>();

    private JavaFlails() {
    }

    interface Falls {
        int number();

        default int falls(int x) {
            RAN.add(1);
            return x + number();
        }
    }

    interface Tells {
        int sounds(int x);

        int waits(int x);

        default int tells(int x) {
            RAN.add(2);
            return sounds(x) - waits(1);
        }
    }

    static class Flail implements Falls, Tells {
        int number;

        @Override public int number() {
            return number;
        }

        @Override public int sounds(int x) {
            RAN.add(10);
            return falls(x) * 2;
        }

        @Override public int waits(int x) {
            RAN.add(11);
            return x ^ number;
        }
    }

    static class Elm extends Flail {
        @Override public int falls(int x) {
            RAN.add(20);
            return super.falls(x) + 3;
        }
    }

    static class Plank extends Flail {
        @Override public int sounds(int x) {
            RAN.add(30);
            return -super.sounds(x);
        }
    }

    static class No extends Plank {
        @Override public int waits(int x) {
            RAN.add(40);
            return super.waits(x) * 3;
        }

        @Override public int sounds(int x) {
            RAN.add(41);
            return super.sounds(x + 1);
        }
    }

    static class Barn extends Elm {
        @Override public int waits(int x) {
            RAN.add(50);
            return super.waits(x) - falls(2);
        }
    }

    static class Chaff extends No {
        @Override public int tells(int x) {
            RAN.add(60);
            return super.tells(x) ^ 5;
        }
    }

    static class Stranger extends Flail {
        @Override public int falls(int x) {
            RAN.add(70);
            return super.falls(x) * 2;
        }
    }

    static class Finlay extends Barn {
        @Override public int sounds(int x) {
            RAN.add(80);
            return super.sounds(x) + waits(2);
        }

        @Override public int tells(int x) {
            RAN.add(81);
            return super.tells(x) - 1;
        }
    }

    static Flail made(int kind, int number) {
        Flail[] all = {new Flail(), new Elm(), new Plank(), new No(), new Barn(), new Chaff(), new Stranger(), new Finlay()};
        all[kind].number = number;
        return all[kind];
    }

    static int acted(Flail flail, int act, int x) {
        RAN.clear();
        switch (act) {
            case 0: return flail.falls(x);
            case 1: return flail.sounds(x);
            case 2: return flail.waits(x);
            default: return flail.tells(x);
        }
    }
}
