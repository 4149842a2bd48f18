import java.io.DataInputStream;
import java.io.IOException;
import java.io.InputStream;
import java.util.TreeSet;

/** The methods, fields and classes that a compiled class names, as its table of constants has them. */
final class ClassCalls {
    /** Such as "java/lang/Math.abs (I)I"; "invokedynamic" where a call is linked while the program runs. */
    final TreeSet<String> members = new TreeSet<>();
    final TreeSet<String> classes = new TreeSet<>();

    private final int[] tags;
    private final int[] first;
    private final int[] second;
    private final String[] texts;

    ClassCalls(Class<?> c) throws IOException {
        String file = c.getName() + ".class";
        try (InputStream bytes = c.getClassLoader().getResourceAsStream(file)) {
            if (bytes == null) throw new IOException("there is no " + file);
            DataInputStream in = new DataInputStream(bytes);
            in.skipNBytes(8);
            int many = in.readUnsignedShort();
            tags = new int[many];
            first = new int[many];
            second = new int[many];
            texts = new String[many];
            for (int i = 1; i < many; i++) {
                readConstant(in, i);
                // A long or a double takes two places.
                if (tags[i] == 5 || tags[i] == 6) i++;
            }
        }
        for (int i = 1; i < tags.length; i++) name(i);
    }

    private void readConstant(DataInputStream in, int i) throws IOException {
        tags[i] = in.readUnsignedByte();
        switch (tags[i]) {
            case 1 -> texts[i] = in.readUTF();
            case 3, 4 -> in.skipNBytes(4);
            case 5, 6 -> in.skipNBytes(8);
            case 7, 8, 16, 19, 20 -> first[i] = in.readUnsignedShort();
            case 15 -> in.skipNBytes(3);
            case 9, 10, 11, 12, 17, 18 -> {
                first[i] = in.readUnsignedShort();
                second[i] = in.readUnsignedShort();
            }
            default -> throw new IOException("a constant of kind " + tags[i]);
        }
    }

    private void name(int i) {
        switch (tags[i]) {
            case 7 -> classes.add(texts[first[i]]);
            case 9, 10, 11 -> {
                int what = second[i];
                members.add(texts[first[first[i]]] + "." + texts[first[what]] + " " + texts[second[what]]);
            }
            case 15, 16, 17, 18 -> members.add("invokedynamic");
            default -> { }
        }
    }
}
