import java.util.Random;

/**
 * A tool for writing tests, not a test: tells cuts and riffles that bring the wanted ranks to the front.
 * Usage: java FindShuffle DECKS RANK RANK .. (a rank 0 stands for any card)
 */
public final class FindShuffle {
    private static final int MOST_STEPS = 12;

    private FindShuffle() {
    }

    public static void main(String[] args) {
        int decks = Integer.parseInt(args[0]);
        int[] wanted = new int[args.length - 1];
        for (int i = 0; i < wanted.length; i++) {
            wanted[i] = Integer.parseInt(args[i + 1]);
        }
        Random random = new Random(1);
        for (int attempt = 0; attempt < 50_000_000; attempt++) {
            StringBuilder recipe = new StringBuilder();
            int[] shoe = laid(decks);
            for (int step = 0; step < 1 + attempt % MOST_STEPS; step++) {
                int kind = random.nextInt(4);
                if (kind == 0) {
                    int cards = 1 + random.nextInt(shoe.length - 1);
                    shoe = cut(shoe, cards);
                    recipe.append(cards).append(' ');
                } else {
                    shoe = riffled(shoe, kind == 1);
                    recipe.append(kind == 1 ? "o " : "i ");
                }
            }
            for (int cards = 1; cards < shoe.length; cards++) {
                if (isWanted(shoe, cards, wanted)) {
                    System.out.println(recipe.append(cards));
                    return;
                }
            }
        }
        System.out.println("none found");
    }

    private static boolean isWanted(int[] shoe, int cards, int[] wanted) {
        for (int i = 0; i < wanted.length; i++) {
            if (wanted[i] != 0 && wanted[i] != shoe[(cards + i) % shoe.length]) {
                return false;
            }
        }
        return true;
    }

    private static int[] laid(int decks) {
        int[] shoe = new int[52 * decks];
        for (int i = 0; i < shoe.length; i++) {
            shoe[i] = Math.min(10, 1 + i / (4 * decks));
        }
        return shoe;
    }

    private static int[] cut(int[] shoe, int cards) {
        int[] cut = new int[shoe.length];
        for (int i = 0; i < cut.length; i++) {
            cut[i] = shoe[(i + cards) % shoe.length];
        }
        return cut;
    }

    private static int[] riffled(int[] shoe, boolean isOut) {
        int[] riffled = new int[shoe.length];
        int half = shoe.length / 2;
        for (int i = 0; i < half; i++) {
            riffled[2 * i] = shoe[isOut ? i : half + i];
            riffled[2 * i + 1] = shoe[isOut ? half + i : i];
        }
        return riffled;
    }
}
