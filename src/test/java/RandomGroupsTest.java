import java.util.Random;

/** Groupings of up to eight of many funds, compared with the model, which weighs every one of them. */
public final class RandomGroupsTest {
    private static final int DESKS = 120;

    public static void main(String[] args) {
        for (int seed = 0; seed < DESKS; seed++) {
            compare(new Random(seed));
        }
        Check.done();
    }

    private static void compare(Random random) {
        TrustDesk desk = new TrustDesk();
        Model model = new Model();
        type(desk, model, "keep " + random.nextInt(4) + ";");
        Check.same("act", desk.act(0), model.act(0));
        int funds = 6 + random.nextInt(7);
        int most = random.nextBoolean() ? 5 : 200;
        for (int i = 0; i < funds; i++) {
            int stock = random.nextInt(most);
            type(desk, model, deed(random, most));
            Check.same("fund", desk.fund(0, stock), model.fund(0, stock));
            int group = random.nextInt(3);
            desk.lay(i, group);
            model.lay(i, group);
        }
        for (int i = 0; i < 6; i++) {
            int bits = eightOf(random, funds);
            Check.same("group " + bits, desk.group(bits), model.group(bits));
            Check.same("judge " + bits, desk.judge(bits), model.judge(bits));
            int fund = random.nextInt(funds);
            Check.same("grouped " + bits + " " + fund, desk.grouped(bits, fund), model.grouped(bits, fund));
        }
    }

    private static int eightOf(Random random, int funds) {
        int bits = (1 << funds) - 1;
        int wanted = 6 + random.nextInt(3);
        while (Integer.bitCount(bits) > wanted) {
            bits &= ~(1 << random.nextInt(funds));
        }
        return bits;
    }

    private static String deed(Random random, int most) {
        StringBuilder text = new StringBuilder("mark 0");
        for (int mark = 1; mark < 8; mark++) {
            if (random.nextInt(3) > 0) {
                text.append(' ').append(mark);
            }
        }
        text.append(';');
        if (random.nextInt(10) == 0) {
            text.setLength(0);
        }
        if (random.nextInt(2) == 0) {
            text.append("end a pays ").append(random.nextInt(2 * most)).append(" if 1=1;");
        }
        return text.toString();
    }

    private static void type(TrustDesk desk, Model model, String text) {
        Check.type(desk, text);
        for (char letter : text.toCharArray()) {
            model.tape.add((int) letter);
        }
    }
}
