/**
 * Five chains of six laps each: the ghost of each lap is the one before, and each sixth has the
 * depth 5, so that the next is whole. The lap n waits n ticks, and has n + 5 inputs. No lap is
 * driven any more once one was struck out, so that one that was is never the base of another
 * again: the base of each lap is the next lower one of its chain that never was struck out.
 */
final class LongChains extends LongGame {
    private final boolean[] wasStruck = new boolean[30];

    LongChains() {
        super("chains");
    }

    void play() {
        begin();
        for (int i = 0; i < 30; i++) {
            drive(i, i, i % 6, i - 1);
        }
        for (int i = 0; i < 6; i++) {
            restingIs(i);
        }
        for (int i = 0; i < 30; i++) {
            // 13 is prime to 30, so that each lap is struck out once, now here, now there.
            int lap = i * 13 % 30;
            strike(lap);
            storeIs(lap);
            storeIs(lap / 6 * 6 + 5);
            if (i % 3 != 0) {
                giveBack(lap);
            }
            if (i % 6 == 5) {
                figures();
            }
        }
        for (int i = 0; i < 30 && left() > 2; i++) {
            giveBack(i * 7 % 30);
            strike(29 - i);
        }
        end(30, "isSound", true, g -> g.isSound());
    }

    private int base(int lap) {
        int base = lap - 1;
        while (base >= lap / 6 * 6 && wasStruck[base]) {
            base--;
        }
        return base >= lap / 6 * 6 ? base : -1;
    }

    private int depth(int lap) {
        return base(lap) < 0 ? 0 : 1 + depth(base(lap));
    }

    /**
     * Unlike are the places of both laps' '+', and those at the end that the base has not; the
     * lap's own '+' is one of these if the base is five ticks shorter.
     */
    private int parts(int lap) {
        int longer = lap - base(lap);
        return base(lap) < 0 ? lap + 5 : longer + (longer < 5 ? 2 : 1);
    }

    private int countAgainst(int lap) {
        int count = 0;
        for (int i = lap + 1; i < 30; i++) {
            count += base(i) == lap ? 1 : 0;
        }
        return count;
    }

    private void strike(int lap) {
        if (stands[lap]) {
            due("strike " + lap, countAgainst(lap), g -> g.strike(lap));
            stands[lap] = false;
            wasStruck[lap] = true;
        } else {
            due("strike " + lap, Check.UNSUPPORTED, g -> g.strike(lap));
        }
    }

    private void giveBack(int lap) {
        if (stands[lap]) {
            due("give back " + lap, Check.UNSUPPORTED, g -> g.giveBack(lap));
        } else {
            stands[lap] = true;
            due("give back " + lap, countStanding(), g -> g.giveBack(lap));
        }
    }

    private void storeIs(int lap) {
        Object base = base(lap) < 0 ? Check.NO_ELEMENT : base(lap);
        due("base of " + lap, base, g -> g.base(lap));
        due("depth of " + lap, depth(lap), g -> g.depth(lap));
        due("parts of " + lap, parts(lap), g -> g.parts(lap));
        restingIs(lap);
    }

    private void restingIs(int lap) {
        due("resting on " + lap, wasStruck[lap] ? 0 : 5 - lap % 6, g -> g.resting(lap));
    }

    private void figures() {
        long sum = 7;
        int stored = 0;
        int inputs = 0;
        int counted = 0;
        for (int i = 0; i < 30; i++) {
            sum = 31 * sum + 100 * (i + 5) + parts(i) + (stands[i] ? 1 : 0);
            stored += parts(i);
            inputs += i + 5;
            counted += stands[i] ? 100 * (i + 5) : 0;
        }
        due("stored", stored, g -> g.stored());
        due("checksum", sum, g -> g.checksum());
        due("shareStored", (float) stored / (float) inputs, g -> g.shareStored());
        due("meanTime", (double) counted / (double) countStanding(), g -> g.meanTime());
        due("isSound", true, g -> g.isSound());
    }
}
