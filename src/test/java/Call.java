import java.util.Arrays;

/** A call by its name, with its arguments. */
record Call(String name, int... arguments) {
    int on(Asked x) {
        return x.call(name, arguments);
    }

    @Override
    public String toString() {
        String list = Arrays.toString(arguments);
        return name + "(" + list.substring(1, list.length() - 1) + ")";
    }
}
