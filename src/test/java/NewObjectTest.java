public final class NewObjectTest { public static void main(String[] a) { if (new KeyGraph().version() != 0) System.exit(1); } }
