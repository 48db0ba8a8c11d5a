import java.util.Random;

/** Small tables of two, where open hands can be played to the end: each step held against the model. */
public final class DuelTest {
    public static void main(String[] args) {
        int runs = args.length > 0 ? Integer.parseInt(args[0]) : 1500;
        int wrong = 0;
        int[] found = new int[9];
        for (int seed = 1; seed <= runs && wrong == 0; seed++) {
            Random r = new Random(seed);
            Both b = new Both();
            b.write(text(r));
            b.table();
            for (int step = 0; step < 12 && b.wrong == 0; step++) {
                long value = b.open();
                found[value < -4 ? 8 : (int) value + 4]++;
                long first = b.first();
                if (b.m.s.turn < 0) {
                    break;
                }
                int p = b.m.s.turn;
                int any = b.m.s.people.get(p).hand.get(r.nextInt(b.m.s.people.get(p).hand.size()));
                b.ask(p, 1 - p, r.nextBoolean() && first >= 0 ? (int) first : any, 0);
            }
            wrong += b.wrong;
        }
        System.out.println("duels by their value, -4 to 3, and none: " + java.util.Arrays.toString(found));
        System.exit(wrong > 0 ? 1 : 0);
    }

    private static String text(Random r) {
        int kinds = 2 + r.nextInt(2);
        StringBuilder text = new StringBuilder("kinds " + kinds + ";person a;person b;");
        StringBuilder heap = new StringBuilder();
        int inHeap = r.nextInt(6);
        int[][] left = new int[3][kinds];
        for (int k = 0; k < kinds; k++) {
            int all = r.nextInt(5) == 0 ? r.nextInt(5) : 4;
            for (int i = 0; i < all; i++) {
                left[r.nextInt(3)][k]++;
            }
        }
        for (int i = 0; i < 60; i++) {
            int k = r.nextInt(kinds);
            if (left[2][k] > 0 && inHeap > 0) {
                heap.append(' ').append(k);
                left[2][k]--;
                inHeap--;
            }
        }
        for (int k = 0; k < kinds; k++) {
            left[r.nextInt(2)][k] += r.nextInt(6) > 0 ? left[2][k] : 0;
            for (int p = 0; p < 2; p++) {
                if (left[p][k] > 0) {
                    text.append("hand ").append("ab".charAt(p)).append(' ').append(k).append(' ').append(left[p][k])
                            .append(';');
                }
            }
        }
        if (heap.length() > 0) {
            text.append("heap").append(heap).append(';');
        }
        if (r.nextBoolean()) {
            text.append("again;");
        }
        if (r.nextBoolean()) {
            text.append("refill ").append(r.nextInt(5)).append(';');
        }
        return text.toString();
    }
}
