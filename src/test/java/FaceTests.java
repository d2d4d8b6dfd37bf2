public final class FaceTests { public static void main(String[] a) { } }
