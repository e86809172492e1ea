import java.util.function.Supplier;

/**
 * A village to be asked many things. It is made anew, by the same calls, before one object is used for
 * more than 512 calls, as DOC.md leaves free what later ones answer.
 */
final class Again implements Supplier<StickVotes> {
    private static final int MAX_CALLS = 512;

    private final int callsToMake;
    private final Supplier<StickVotes> maker;
    private StickVotes village;
    private int left;

    /** The maker needs so many calls of an object at most. */
    Again(int callsToMake, Supplier<StickVotes> maker) {
        if (callsToMake >= MAX_CALLS) throw new IllegalArgumentException("no call is left to ask");
        this.callsToMake = callsToMake;
        this.maker = maker;
    }

    /** The village, for one call that changes nothing. */
    @Override
    public StickVotes get() {
        if (left == 0) {
            village = maker.get();
            left = MAX_CALLS - callsToMake;
        }
        left--;
        return village;
    }
}
