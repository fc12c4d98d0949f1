import java.util.Arrays;
import java.util.stream.Collectors;

/** Each call of the face by its name, for WaxVoices and for NaiveWax, so that runs can be written as texts. */
enum Op {
    side(4, (x, a) -> x.side(a[0], a[1], a[2], a[3]), (n, a) -> n.side(a[0], a[1], a[2], a[3])),
    hours(3, (x, a) -> x.hours(a[0], a[1], a[2]), (n, a) -> n.hours(a[0], a[1], a[2])),
    told(2, (x, a) -> x.told(a[0], a[1]), (n, a) -> n.told(a[0], a[1])),
    read(2, (x, a) -> x.read(a[0], a[1] == 1), (n, a) -> n.read(a[0], a[1] == 1)),
    pass(1, (x, a) -> x.pass(a[0]), (n, a) -> n.pass(a[0])),
    best(3, (x, a) -> x.best(a[0], a[1], a[2]), (n, a) -> n.best(a[0], a[1], a[2])),
    does(4, (x, a) -> x.does(a[0], a[1], a[2], a[3]), (n, a) -> n.does(a[0], a[1], a[2], a[3])),
    needed(3, (x, a) -> x.needed(a[0], a[1], a[2]), (n, a) -> n.needed(a[0], a[1], a[2])),
    sign(4, (x, a) -> x.sign(a[0], a[1], a[2], a[3]), (n, a) -> n.sign(a[0], a[1], a[2], a[3])),
    drop(1, (x, a) -> x.drop(a[0]), (n, a) -> n.drop(a[0])),
    speed(1, (x, a) -> x.speed(a[0]), (n, a) -> n.speed(a[0])),
    span(1, (x, a) -> x.span(a[0]), (n, a) -> n.span(a[0])),
    weighs(2, (x, a) -> x.weighs(a[0], a[1]), (n, a) -> n.weighs(a[0], a[1])),
    quarrels(1, (x, a) -> x.quarrels(a[0]), (n, a) -> n.quarrels(a[0])),
    piece(2, (x, a) -> x.piece(a[0], a[1]), (n, a) -> n.piece(a[0], a[1])),
    sweep(0, (x, a) -> x.sweep(), (n, a) -> n.sweep()),
    tolerance(1, (x, a) -> x.tolerance(a[0]), (n, a) -> n.tolerance(a[0])),
    rows(0, (x, a) -> x.rows(), (n, a) -> n.rows()),
    misfit(0, (x, a) -> x.misfit(), (n, a) -> n.misfit()),
    inRow(1, (x, a) -> x.inRow(a[0]), (n, a) -> n.inRow(a[0])),
    sung(3, (x, a) -> x.sung(a[0], a[1], a[2]), (n, a) -> n.sung(a[0], a[1], a[2])),
    text(5, (x, a) -> x.text(a[0], a[1], a[2], a[3], a[4] == 1), (n, a) -> n.text(a[0], a[1], a[2], a[3], a[4] == 1)),
    counts(4, (x, a) -> x.counts(a[0], a[1], a[2], a[3]), (n, a) -> n.counts(a[0], a[1], a[2], a[3])),
    may(3, (x, a) -> x.may(a[0], a[1], a[2]), (n, a) -> n.may(a[0], a[1], a[2])),
    heard(2, (x, a) -> x.heard(a[0], a[1]), (n, a) -> n.heard(a[0], a[1])),
    days(4, (x, a) -> x.days(a[0], a[1], a[2], a[3]), (n, a) -> n.days(a[0], a[1], a[2], a[3])),
    copy(2, (x, a) -> x.copy(a[0], a[1]), (n, a) -> n.copy(a[0], a[1])),
    copies(1, (x, a) -> x.copies(a[0]), (n, a) -> n.copies(a[0])),
    clearest(1, (x, a) -> x.clearest(a[0]), (n, a) -> n.clearest(a[0])),
    total(1, (x, a) -> x.total(a[0]), (n, a) -> n.total(a[0]));

    interface Asked<T> {
        int of(T object, int[] arguments);
    }

    final int arity;
    private final Asked<WaxVoices> wax;
    private final Asked<NaiveWax> naive;

    Op(int arity, Asked<WaxVoices> wax, Asked<NaiveWax> naive) {
        this.arity = arity;
        this.wax = wax;
        this.naive = naive;
    }

    int ask(WaxVoices x, int... arguments) {
        return wax.of(x, arguments);
    }

    int ask(NaiveWax n, int... arguments) {
        return naive.of(n, arguments);
    }

    String text(int... arguments) {
        return name() + Arrays.stream(arguments).mapToObj(String::valueOf).collect(Collectors.joining(", ", "(", ")"));
    }
}
