/** Promise 1: a new object. */
public final class NewObjectTest {
    public static void main(String[] args) {
        KitMachine kit = new KitMachine();
        for (int what = 0; what <= 7; what++) {
            Due.same("register(" + what + ")", kit.register(what), 0);
        }
        for (int side = 0; side <= 1; side++) {
            for (int what = 0; what <= 5; what++) {
                Due.same("port(" + side + ", " + what + ")", kit.port(side, what), 0);
            }
        }
        Due.same("serial(0)", kit.serial(0), 2);
        for (int what = 1; what <= 4; what++) {
            Due.same("serial(" + what + ")", kit.serial(what), 0);
        }
        Due.same("sent()", kit.sent(), 0);
        Due.same("sentByte(0)", kit.sentByte(0), KitMachine.NONE);
        checkMemory();
        checkNotReset();
        checkObjectsApart();
        Due.end();
    }

    private static void checkMemory() {
        for (int start = 0; start < 1024; start += 256) {
            KitMachine kit = new KitMachine();
            for (int i = start; i < start + 256; i++) {
                Due.same("peek(" + i + ")", kit.peek(i), 0);
                Due.same("peek(" + (64512 + i) + ")", kit.peek(64512 + i), 0);
            }
        }
    }

    private static void checkNotReset() {
        KitMachine kit = new KitMachine();
        kit.put(65532, 0x00000200);
        kit.put(0, 0x01080100);
        Due.same("run(2) from 0", kit.run(2), 2);
        Due.same("P", kit.register(4), 2);
        Due.same("X", kit.register(2), 1);
        Due.same("flags", kit.register(5), 0);
    }

    private static void checkObjectsApart() {
        KitMachine one = new KitMachine();
        KitMachine other = new KitMachine();
        one.put(0, -1);
        one.receive(1);
        one.pins(0, 7);
        Due.same("other memory", other.peek(0), 0);
        Due.same("other line", other.serial(2), 0);
        Due.same("other pins", other.port(0, 5), 0);
    }
}
