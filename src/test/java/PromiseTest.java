import static java.lang.Integer.MAX_VALUE;
import static java.lang.Integer.MIN_VALUE;

/** Each promise of the document by itself: ordinary inputs, the edges it names, wrong inputs; all reckoned by hand. */
public final class PromiseTest {
    private static final int ALL = (1 << 30) - 1;

    private PromiseTest() {
    }

    public static void main(String[] args) {
        ToldPromises.run();
        StepPromises.run();
        AskedPromises.run();
        LawPromises.run();
        Check.close();
    }

    static void promise(int number) {
        Check.at("promise " + number);
    }

    /** A new one under whose law nothing is lost, with one block. */
    static LongCarrier quiet(int length, int red) {
        LongCarrier x = ruled("loses 0;");
        x.block(length, red);
        return x;
    }

    static LongCarrier ruled(String text) {
        LongCarrier x = new LongCarrier();
        Check.due("text '" + text + "'", Check.text(x, text), 0);
        x.by(0);
        return x;
    }

    /** Ten bytes, six red, opened, and so many ticks on; nothing is lost. */
    static LongCarrier carried(int ticks) {
        LongCarrier x = quiet(10, 6);
        x.open(0);
        for (int i = 0; i < ticks; i++) {
            x.day(1);
        }
        return x;
    }

    /** Three blocks of thirty bytes by one byte each: more than a line has room for. */
    static LongCarrier crowded(String text) {
        LongCarrier x = ruled(text);
        x.size(1);
        for (int i = 0; i < 3; i++) {
            x.block(30, 30);
        }
        return x;
    }

    static int[] wrongNumbers(int least, int most) {
        return new int[] {least - 1, most + 1, MIN_VALUE, MAX_VALUE, -1000, 100000};
    }

    static int[] wrongBits() {
        return new int[] {-1, ALL + 1, MIN_VALUE, MAX_VALUE};
    }
}
