import java.io.DataInputStream;
import java.io.IOException;
import java.io.InputStream;
import java.util.TreeSet;

/** The methods that a compiled class calls, as its pool of constants has them: class.name(types)type. */
final class CalledMethods {
    private final Object[] pool;

    private CalledMethods(DataInputStream in) throws IOException {
        in.skipBytes(8);
        pool = new Object[in.readUnsignedShort()];
        for (int i = 1; i < pool.length; i++) {
            int tag = in.readUnsignedByte();
            pool[i] = constant(tag, in);
            // A long and a double take two places.
            i += tag == 5 || tag == 6 ? 1 : 0;
        }
    }

    static TreeSet<String> of(Class<?> one) throws IOException {
        String file = one.getName() + ".class";
        try (InputStream in = one.getResourceAsStream("/" + file)) {
            if (in == null) {
                throw new IOException("no " + file);
            }
            return new CalledMethods(new DataInputStream(in)).all();
        }
    }

    private static Object constant(int tag, DataInputStream in) throws IOException {
        return switch (tag) {
            case 1 -> in.readUTF();
            case 3, 4 -> in.readInt();
            case 5, 6 -> in.readLong();
            case 7, 8, 16, 19, 20 -> new int[] {tag, in.readUnsignedShort()};
            case 9, 10, 11, 12, 17, 18 -> new int[] {tag, in.readUnsignedShort(), in.readUnsignedShort()};
            case 15 -> new int[] {tag, in.readUnsignedByte(), in.readUnsignedShort()};
            default -> throw new IOException("constant of kind " + tag);
        };
    }

    private TreeSet<String> all() {
        TreeSet<String> called = new TreeSet<>();
        for (Object one : pool) {
            if (one instanceof int[] parts && (parts[0] == 10 || parts[0] == 11)) {
                called.add(pool[at(parts[1])[1]] + "." + nameAndType(parts[2]));
            } else if (one instanceof int[] parts && (parts[0] == 17 || parts[0] == 18)) {
                called.add("made while it runs." + nameAndType(parts[2]));
            }
        }
        return called;
    }

    private String nameAndType(int place) {
        return "" + pool[at(place)[1]] + pool[at(place)[2]];
    }

    private int[] at(int place) {
        return (int[]) pool[place];
    }
}
