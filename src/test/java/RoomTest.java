import com.sun.management.ThreadMXBean;
import java.lang.management.ManagementFactory;
import java.util.Random;

/** What dear runs make in all stays far below the room, and no argument in any state makes a call throw. */
public final class RoomTest {
    private static final long MOST_BYTES = 2_000_000;

    private RoomTest() {
    }

    public static void main(String[] args) {
        newObjects();
        dearRun();
        for (int seed = 0; seed < 400; seed++) {
            wildRun(new Random(seed * 0x9E3779B97F4A7C15L));
        }
        Kit.due("wild runs ended", true, true);
        Kit.close();
    }

    private static long made() {
        return ((ThreadMXBean) ManagementFactory.getThreadMXBean()).getThreadAllocatedBytes(Thread.currentThread().getId());
    }

    private static void newObjects() {
        new SpellTurner();
        long before = made();
        for (int n = 0; n < 100; n++) {
            new SpellTurner();
        }
        long each = (made() - before) / 100;
        Kit.due("a new object is small: " + each, each < 60_000, true);
    }

    /** Six full reforms whose words have many partings, a full book, and each dear call again and again. */
    private static void dearRun() {
        StringBuilder text = new StringBuilder("law'a'to'b'start;");
        for (int n = 1; n <= 16; n++) {
            text.append("part'").append("a".repeat(n)).append("';");
        }
        for (int n = 0; n < 39; n++) {
            text.append("law'").append(n % 2 == 0 ? "cb" : "bc").append("'to'").append(n % 2 == 0 ? "b" : "ab").append("'start;");
        }
        SpellTurner x = new SpellTurner();
        for (int r = 0; r < 6; r++) {
            Kit.load(x, text.toString()).reform(r);
        }
        Kit.due("six reforms", x.count(0), 6);
        for (int n = 0; n < 100; n++) {
            Kit.load(x, "a".repeat(1 + n % 24) + "b".repeat(n / 24)).learn();
        }
        String page = "aaaaaaaaaaaaaaaaaaaaaaaa aab\n".repeat(40).substring(0, 1100);
        long before = made();
        for (int n = 0; n < 60; n++) {
            x.collisions(n % 7);
            x.rhymes(n % 7);
            x.tell(n % 7, n % 3);
            x.uses(n % 6, n % 40);
            Kit.load(x, "aab").back(n % 7);
            Kit.load(x, "aaaaaaaaaaaaaaaaaaaaaaaa").turn(0, 6);
            Kit.load(x, "aaaaaaaaaaaaaaaaaaaaaaaa").partings(0);
        }
        for (int n = 0; n < 5; n++) {
            Kit.load(x, page).write(0, 6);
            Kit.load(x, page).mixed(1);
        }
        long bytes = made() - before;
        Kit.load(x, "aaaaaaaaaaaaaaaaaaaaaaaa").turn(0, 6);
        Kit.due("it had words of many forms", x.form(11, 23), (int) 'a');
        Kit.due("a dear run is small: " + bytes, bytes < MOST_BYTES, true);
    }

    private static int wild(Random random) {
        int[] edges = {Integer.MIN_VALUE, -1000, -1, 0, 1, 2, 5, 6, 7, 12, 24, 30, 40, 100, 200, 2000, 2500, 100000, Integer.MAX_VALUE};
        return random.nextInt(4) == 0 ? random.nextInt() : edges[random.nextInt(edges.length)];
    }

    private static void wildRun(Random random) {
        SpellTurner x = new SpellTurner();
        String[] texts = {"", "a", "keep 'a'; part 'b'; law 'b' to 'bbbbbbbbbbbbbbbb';", "aaaa Bb \"c\n d\" e\n\nf", "bbbbbbbb", "\0", "'", "law 'a"};
        for (int n = 0; n < 512; n++) {
            if (random.nextBoolean()) {
                Kit.load(x, texts[random.nextInt(texts.length)]);
            }
            int a = random.nextInt(3) == 0 ? random.nextInt(3) : wild(random);
            int b = random.nextInt(3) == 0 ? random.nextInt(3) : wild(random);
            switch (random.nextInt(25)) {
                case 0: x.feed(a, b, a, b, a); break;
                case 1: x.end(a); break;
                case 2: x.reform(random.nextBoolean() ? n : a); break;
                case 3: x.fault(a); break;
                case 4: x.about(a, b); break;
                case 5: x.stage(a); break;
                case 6: x.turn(a, b); break;
                case 7: x.form(a, b); break;
                case 8: x.partings(a); break;
                case 9: x.parting(a, b); break;
                case 10: x.learn(); break;
                case 11: x.word(a, b); break;
                case 12: x.back(a); break;
                case 13: x.old(a); break;
                case 14: x.collisions(a); break;
                case 15: x.collision(a); break;
                case 16: x.rhymes(a); break;
                case 17: x.tell(a, b); break;
                case 18: x.uses(a, b); break;
                case 19: x.write(a, b); break;
                case 20: x.written(a); break;
                case 21: x.counted(a); break;
                case 22: x.mixed(a); break;
                case 23: x.line(a); break;
                default: x.count(a); break;
            }
        }
    }
}
