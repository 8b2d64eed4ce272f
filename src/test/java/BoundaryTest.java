import java.io.IOException;
import java.util.Random;

/** A test of its own for each sentence of the document; none of its words may be left without one. */
public final class BoundaryTest {
    private BoundaryTest() {
    }

    public static void main(String[] args) throws IOException {
        Doc.open();
        TermsCases.all();
        TextCases.all();
        WalkBackCases.all();
        PromiseCases.all();
        TapeCases.all();
        Doc.allQuoted();
        usedForLong();
        Check.finish();
    }

    /** "An object is used for at most 512 calls": the 512th answers as any other, and later ones end. */
    private static void usedForLong() {
        Random random = new Random(16);
        ThresholdLines x = new ThresholdLines(8, 8);
        Model model = new Model(8, 8);
        for (int call = 1; call <= 511; call++) {
            int[] p = model.innerPoints().get(random.nextInt(112));
            model.at[p[0]][p[1]] = random.nextInt(3);
            x.set(p[0], p[1], model.at[p[0]][p[1]]);
        }
        Check.due("the 512th call", x.lines(), model.walks().size());
        for (int call = 513; call <= 2000; call++) {
            x.feed(call, call, call, call, call);
            x.end(call % 200);
            x.draw();
            x.back(8, 8, 1, 0);
        }
        ThresholdLines y = new ThresholdLines(1, 1);
        for (int call = 1; call <= 510; call++) {
            y.feed(0x706c6169, 0x6e203220, 0x32202020, 0x20202020, 0x20202020);
        }
        y.end(20);
        Check.due("the 512th call, of a tape filled long ago", y.draw(), 4);
    }
}
