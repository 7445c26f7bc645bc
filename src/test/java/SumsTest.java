/** Promises 46 to 49: the share of grout, mean minutes, the checksum, soundness. */
public final class SumsTest {
    private static final Class<ArithmeticException> ARITHMETIC = ArithmeticException.class;

    public static void main(String[] args) {
        groutShare();
        meanMinutes();
        checksum();
        isSound();
        Check.end();
    }

    private static void groutShare() {
        Boringhead x = new Boringhead();
        x.ground(3, 4, 's');
        Scenes.clay(x, 5);
        Check.same("share without grout", x.groutShare(), 0);
        x.grout(0, 100);
        Check.same("share of 100 of 660", x.groutShare(), 100f / 660f);
        x.grout(3, 180);
        Check.same("share of 280 of 660", x.groutShare(), 280f / 660f);
        Check.refused("share without rings", ARITHMETIC, Scenes::fresh, Boringhead::groutShare);
    }

    private static void meanMinutes() {
        Boringhead x = new Boringhead();
        x.ground(1, 2, 's');
        Scenes.clay(x, 3);
        x.pause(100, 'w', '-');
        Check.same("mean of 30, 40, 40", x.meanMinutes(), 110.0 / 3.0);
        Check.refused("mean without rings", ARITHMETIC, Scenes::fresh, Boringhead::meanMinutes);
    }

    private static void checksum() {
        Boringhead x = new Boringhead();
        Check.same("checksum at first", x.checksum(), 7 * 31);
        x.pause(5, 'w', '-');
        Check.same("checksum by the clock", x.checksum(), 7 * 31 + 5);
        x.bend(0, 199, -3, 2);
        Scenes.clay(x, 1);
        long sum = 7;
        sum = 31 * sum;
        sum = 31 * sum + 3;
        sum = 31 * sum + 8;
        sum = 31 * sum + 120;
        Check.same("checksum of a ring", x.checksum(), 31 * sum + 35);
        x.grout(0, 50);
        Check.same("checksum by what is lost", x.checksum(), 31 * (sum - 50) + 35);
        x.advance(5);
        sum = 31 * (sum - 50) + 5;
        sum = 31 * sum + 3 - 1;
        sum = 31 * sum + 8 - 1;
        sum = 31 * sum + 120;
        Check.same("checksum of two rings", x.checksum(), 31 * sum + 65);
    }

    private static void isSound() {
        Boringhead x = new Boringhead();
        Check.same("sound at first", x.isSound(), true);
        Scenes.boulders(x);
        x.steer(5, -5);
        x.bend(3, 9, 2, 3);
        x.foam(true);
        x.change(0);
        x.change(1);
        x.advance(5);
        x.foam(false);
        x.advance(6);
        x.steer(-1, 1);
        x.grout(0, 168);
        x.house(2, 4, 3);
        x.lift(0, true, 50);
        x.notice(1);
        x.pause(600, 'h', 'w');
        x.lorries(4);
        x.first('h');
        x.pause(600, 'h', 'w');
        x.pause(600, 's', '-');
        x.pause(600, 'w', '-');
        Check.same("sound behind all", x.isSound(), true);
        x.plan(3);
        Check.same("sound behind a plan", x.isSound(), true);
        Boringhead whole = new Boringhead();
        Scenes.whole(whole);
        Check.same("sound with 120 rings", whole.isSound(), true);
    }
}
