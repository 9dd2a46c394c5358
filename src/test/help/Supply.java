/** Objects of one shape for more questions than one object is used for. */
final class Supply {
    private final Shape shape;
    private StrongParts x;
    private int used;

    Supply(Shape shape) {
        this.shape = shape;
        renew();
    }

    private void renew() {
        x = shape.made();
        used = shape.calls();
    }

    /** An object for as many calls, which must leave it as they found it. */
    StrongParts forCalls(int calls) {
        if (used + calls > Shape.MOST_CALLS) {
            renew();
        }
        used += calls;
        return x;
    }

    StrongParts forOne() {
        return forCalls(1);
    }

    long ask(String name, int... numbers) {
        int[] three = java.util.Arrays.copyOf(numbers, 3);
        return Call.named(name).answer(forOne(), three[0], three[1], three[2]);
    }
}
