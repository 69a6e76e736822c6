import java.util.function.Consumer;
import java.util.function.Function;

/** A call of the face, with its name for what is printed; one that answers nothing answers "done". */
record Ask(String name, Function<TwoSeals, Object> call) {
    private static Ask silent(String name, Consumer<TwoSeals> deed) {
        return new Ask(name, seals -> {
            deed.accept(seals);
            return "done";
        });
    }

    static Ask type(int row, long bits, int n) {
        return new Ask("type(" + row + ", " + bits + ", " + n + ")", seals -> seals.type(row, bits, n));
    }

    static Ask clear(int row) {
        return new Ask("clear(" + row + ")", seals -> seals.clear(row));
    }

    static Ask poke(int row, int i, int v) {
        return silent("poke(" + row + ", " + i + ", " + v + ")", seals -> seals.poke(row, i, v));
    }

    static Ask take(int row) {
        return new Ask("take(" + row + ")", seals -> seals.take(row));
    }

    static Ask block() {
        return silent("block()", TwoSeals::block);
    }

    static Ask hash(int way) {
        return silent("hash(" + way + ")", seals -> seals.hash(way));
    }

    static Ask seal(int way) {
        return new Ask("seal(" + way + ")", seals -> seals.seal(way));
    }

    static Ask open(int way) {
        return new Ask("open(" + way + ")", seals -> seals.open(way));
    }

    static Ask size() {
        return new Ask("size()", TwoSeals::size);
    }

    static Ask at(int i) {
        return new Ask("at(" + i + ")", seals -> seals.at(i));
    }
}
