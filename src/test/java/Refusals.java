import java.util.List;
import java.util.function.Consumer;
import java.util.function.Predicate;
import java.util.function.Supplier;
import java.util.function.ToIntFunction;

/**
 * Calls that are refused, and that nothing is done by them: a desk with the call and one without it
 * answer the same, at once and after what may bring to light what no question shows.
 */
final class Refusals {
    interface IntCall {
        void make(RopewayDesk desk, int value);
    }

    private static final List<Consumer<RopewayDesk>> LATER = List.of(
        desk -> { },
        desk -> desk.tick(1),
        desk -> Scenes.ticks(desk, 45),
        desk -> desk.pulse(600),
        desk -> desk.wind(0));

    private final Checks checks;

    Refusals(Checks checks) {
        this.checks = checks;
    }

    /** The least and the greatest value are taken, and none beyond. */
    void beyond(String call, int least, int greatest, IntCall made) {
        for (int value : new int[] {least, greatest}) {
            RopewayDesk desk = Scenes.busy();
            checks.taken(call + " of " + value, () -> made.make(desk, value));
        }
        for (int value : outside(least, greatest)) {
            byException(call + " of " + value, Scenes::busy, desk -> made.make(desk, value));
        }
    }

    /** The first value beyond each end, and the last ones that there are. */
    static int[] outside(int least, int greatest) {
        return new int[] {least - 1, greatest + 1, Integer.MIN_VALUE, Integer.MAX_VALUE};
    }

    void byException(String call, Supplier<RopewayDesk> scene, Consumer<RopewayDesk> made) {
        nothingDone(call, scene, desk -> checks.refused(call, () -> made.accept(desk)));
    }

    void byFalse(String call, Supplier<RopewayDesk> scene, Predicate<RopewayDesk> made) {
        nothingDone(call, scene, desk -> checks.no(call, made.test(desk)));
    }

    void byMinusOne(String call, Supplier<RopewayDesk> scene, ToIntFunction<RopewayDesk> made) {
        nothingDone(call, scene, desk -> checks.due(call, made.applyAsInt(desk), -1));
    }

    private void nothingDone(String call, Supplier<RopewayDesk> scene, Consumer<RopewayDesk> made) {
        for (Consumer<RopewayDesk> later : LATER) {
            int[] without = Books.of(() -> played(scene, List.of(later)));
            int[] with = Books.of(() -> played(scene, List.of(made, later)));
            for (int i = 0; i < without.length; i++) {
                checks.due(Books.written(i) + " after " + call, with[i], without[i]);
            }
        }
    }

    private static RopewayDesk played(Supplier<RopewayDesk> scene, List<Consumer<RopewayDesk>> calls) {
        RopewayDesk desk = scene.get();
        for (Consumer<RopewayDesk> call : calls) {
            call.accept(desk);
        }
        return desk;
    }
}
