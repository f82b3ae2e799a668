/** The calls that README.md shows, with the answers that it tells. */
final class UseTest {
    public static void main(String[] args) {
        Volume volume = new Volume();
        Trial.due(true, () -> volume.type(0x444F43L));
        Trial.due(4476739, () -> volume.make(true, 3));
        Trial.due(true, () -> volume.type(0x2F72656164L));
        Trial.due(5406257, () -> volume.make(false, 4));
        Trial.due(5, () -> volume.write(0, 0x68656C6C6FL, 5, 9));
        Trial.due(111, () -> volume.read(4));
        Trial.due(395525, () -> volume.look());
        Trial.due(3, () -> volume.cut(2));
        Trial.due(-1, () -> volume.read(4));

        Trial.due(true, () -> volume.fail(2));
        Trial.due(-2, () -> volume.remove());
        Trial.due(true, () -> volume.mount());
        Trial.due(1, () -> volume.remove());
        Trial.due(true, () -> volume.poke(volume.peek(-1, 0), 9, 7));
        Trial.due(1, () -> volume.repair());
        volume.wipe();
        Trial.due(Trial.ARGUMENT, () -> volume.look());
        Trial.end();
    }
}
