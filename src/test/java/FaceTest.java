import java.lang.reflect.Member;
import java.lang.reflect.Modifier;
import java.util.ArrayList;
import java.util.List;

/** Promises 1 to 5 and 8 to 14 at their edges, and the face itself. */
public final class FaceTest {
    private static final Check CHECK = new Check();
    private static final int[] CSRS = {768, 772, 773, 832, 833, 834, 836};

    public static void main(String[] args) {
        faceHasNothingElse();
        newObject();
        pokeAndPeek();
        busOfRam();
        busFaults();
        runRefuses();
        jump();
        registers();
        csrs();
        keys();
        printed();
        disk();
        CHECK.end();
    }

    private static void faceHasNothingElse() {
        List<Member> members = new ArrayList<>(List.of(VirtioMachine.class.getDeclaredMethods()));
        members.addAll(List.of(VirtioMachine.class.getDeclaredConstructors()));
        members.addAll(List.of(VirtioMachine.class.getDeclaredFields()));
        int visible = 0;
        for (Member member : members) {
            if (!Modifier.isPrivate(member.getModifiers()) && !member.isSynthetic()) {
                visible++;
            }
        }
        CHECK.due("visible members", visible, 14);
    }

    private static void newObject() {
        VirtioMachine m = new VirtioMachine();
        for (int a = 0; a < 4096; a += 4) {
            m = a % 1024 == 0 ? new VirtioMachine() : m;
            CHECK.due("new peek " + a, m.peek(a), 0);
        }
        for (int i = 0; i < 256; i++) {
            CHECK.due("new disk " + i, m.disk(i), 0);
        }
        m = new VirtioMachine();
        for (int i = 0; i <= 32; i++) {
            CHECK.due("new register " + i, m.register(i), 0);
        }
        for (int number : CSRS) {
            CHECK.due("new csr " + number, m.csr(number), 0);
        }
        CHECK.due("new waits", m.waits(), false);
        CHECK.due("new printed(-1)", m.printed(-1), 0);
        for (int offset : new int[] {4, 8, 16, 20, 24, 28}) {
            CHECK.due("new controller " + offset, m.in(4096 + offset), 0);
        }
        for (int offset = 0; offset <= 256; offset += 4) {
            int[] both = {0, 1953655158, 4, 2, 16, 1 << 28, 52, 8};
            int want = 0;
            for (int k = 0; k < both.length; k += 2) {
                want = both[k] == offset ? both[k + 1] : want;
            }
            CHECK.due("new disk register " + offset, m.in(8192 + offset), offset == 8 ? 2 : offset == 256 ? 8 : want);
            CHECK.due("new console register " + offset, m.in(12288 + offset), offset == 8 ? 3 : want);
        }
    }

    private static void pokeAndPeek() {
        VirtioMachine m = new VirtioMachine();
        for (int a : new int[] {0, 4, 2048, 4092}) {
            CHECK.due("poke " + a, m.poke(a, -a - 7), true);
            CHECK.due("peek " + a, m.peek(a), -a - 7);
        }
        CHECK.due("peek beside", m.peek(8), 0);
        for (int a : new int[] {1, 2, 3, -1, -4, 4094, 4096, 4100, 8192, Integer.MAX_VALUE - 3, Integer.MIN_VALUE}) {
            CHECK.due("poke " + a, m.poke(a, 5), false);
            CHECK.illegalArgument("peek " + a, () -> m.peek(a));
        }
        CHECK.due("peek after refused pokes", m.peek(0), -7);
        CHECK.due("peek after refused pokes", m.peek(4092), -4099);
    }

    private static void busOfRam() {
        VirtioMachine m = new VirtioMachine();
        m.poke(4092, 77);
        CHECK.due("in 4092", m.in(4092), 77);
        m.out(0, -5);
        m.out(4092, 78);
        CHECK.due("peek 0", m.peek(0), -5);
        CHECK.due("peek 4092", m.peek(4092), 78);
    }

    private static void busFaults() {
        VirtioMachine m = new VirtioMachine();
        for (int a : new int[] {1, 2, 3, 4097, 8194, 8450, 8453, 12291, 20001, -1, -2, Integer.MIN_VALUE + 1}) {
            CHECK.illegalArgument("in " + a, () -> m.in(a));
            CHECK.illegalArgument("out " + a, () -> m.out(a, 1));
        }
        for (int a : new int[] {4096, 4108, 4128, 8188, 8452, 12284, 12548, 16384, 16388, -4, Integer.MIN_VALUE}) {
            CHECK.outOfBounds("in " + a, () -> m.in(a));
            CHECK.outOfBounds("out " + a, () -> m.out(a, 1));
        }
        for (int page : new int[] {8192, 12288}) {
            for (int offset = 0; offset <= 256; offset += 4) {
                int a = page + offset;
                CHECK.due("in throws " + a, Check.thrownBy(() -> m.in(a)), 0);
                CHECK.due("out throws " + a, Check.thrownBy(() -> m.out(a, 0)), 0);
            }
        }
        for (int offset : new int[] {4, 8, 16, 20, 24, 28}) {
            CHECK.due("out throws " + offset, Check.thrownBy(() -> m.out(4096 + offset, 0)), 0);
        }
    }

    private static void runRefuses() {
        VirtioMachine m = new VirtioMachine();
        for (int a = 0; a < 480; a += 4) {
            m.poke(a, Asm.addi(1, 1, 1));
        }
        for (int steps : new int[] {-1, 101, Integer.MAX_VALUE, Integer.MIN_VALUE}) {
            CHECK.due("run " + steps, m.run(steps), -1);
        }
        CHECK.due("register 1", m.register(1), 0);
        CHECK.due("run 0", m.run(0), 0);
        CHECK.due("run 100", m.run(100), 100);
        CHECK.due("register 1", m.register(1), 100);
        CHECK.due("pc", m.register(32), 400);
        CHECK.due("run 1", m.run(1), 1);
        CHECK.due("pc", m.register(32), 404);
    }

    private static void jump() {
        VirtioMachine m = new VirtioMachine();
        for (int pc : new int[] {0, 4, 4092, 4096, -4, Integer.MIN_VALUE}) {
            CHECK.due("jump " + pc, m.jump(pc), true);
            CHECK.due("pc", m.register(32), pc);
        }
        for (int pc : new int[] {1, 2, 3, -1, -2}) {
            CHECK.due("jump " + pc, m.jump(pc), false);
            CHECK.due("pc", m.register(32), Integer.MIN_VALUE);
        }
        m.poke(0, Asm.WFI);
        m.jump(0);
        m.run(1);
        CHECK.due("waits behind WFI", m.waits(), true);
        m.jump(2);
        CHECK.due("waits behind a refused jump", m.waits(), true);
        m.jump(16);
        CHECK.due("waits behind a jump", m.waits(), false);
    }

    private static void registers() {
        VirtioMachine m = new VirtioMachine();
        for (int i = 0; i < 32; i++) {
            m.poke(4 * i, Asm.addi(i, 0, i + 100));
        }
        m.run(32);
        CHECK.due("x0", m.register(0), 0);
        for (int i = 1; i < 32; i++) {
            CHECK.due("x" + i, m.register(i), i + 100);
        }
        CHECK.due("pc", m.register(32), 128);
        for (int i : new int[] {-1, 33, 100, Integer.MAX_VALUE, Integer.MIN_VALUE}) {
            CHECK.outOfBounds("register " + i, () -> m.register(i));
        }
    }

    private static void csrs() {
        for (int number = -2; number < 5000; number++) {
            VirtioMachine m = new VirtioMachine();
            boolean there = false;
            for (int known : CSRS) {
                there |= known == number;
            }
            int n = number;
            CHECK.due("csr " + n + " throws", Check.thrownBy(() -> m.csr(n)), there ? 0 : 2);
        }
        VirtioMachine m = new VirtioMachine();
        CHECK.outOfBounds("csr", () -> m.csr(Integer.MIN_VALUE));
        CHECK.outOfBounds("csr", () -> m.csr(768 + 4096));
    }

    private static void keys() {
        VirtioMachine m = new VirtioMachine();
        for (int k = 1; k <= 16; k++) {
            CHECK.due("key", m.key(-k), k);
        }
        CHECK.due("key beyond 16", m.key(1), -1);
        CHECK.due("key beyond 16", m.key(1), -1);
    }

    private static void printed() {
        VirtioMachine m = new VirtioMachine();
        for (int i : new int[] {0, 1, 119, 120, -2, Integer.MAX_VALUE, Integer.MIN_VALUE}) {
            CHECK.outOfBounds("printed " + i, () -> m.printed(i));
        }
    }

    private static void disk() {
        VirtioMachine m = new VirtioMachine();
        for (int i : new int[] {-1, 256, Integer.MAX_VALUE, Integer.MIN_VALUE}) {
            CHECK.outOfBounds("disk " + i, () -> m.disk(i));
        }
    }
}
