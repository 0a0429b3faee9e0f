/** Promises 24 to 26: the row, who lays badly by it, and told trips looked at. */
public final class RowTest {
    public static void main(String[] args) {
        rows();
        badly();
        judged();
        beyond();
        matesByNumbers();
        Check.end("RowTest");
    }

    private static void rows() {
        MuckForFour x = new MuckForFour();
        Check.due("row(0)", x.row(0), 1);
        Check.due("row(99)", x.row(99), 2);
        Check.due("row(-1)", x.row(-1), -4);
        Check.due("row(100)", x.row(100), -6);
        Check.due("in the row", x.count(7), 2);
        for (int i = 3; i <= 20; i++) {
            Check.due("row, the " + i + "th", x.row(i), i);
        }
        Check.due("row, the 21st", x.row(1), -6);
        Check.due("row(-1) when full", x.row(-1), -4);
        Check.due("in the row when full", x.count(7), 20);
    }

    private static void badly(int due, int... numbers) {
        MuckForFour x = new MuckForFour();
        Check.row(x, numbers);
        Check.due("badly() of " + java.util.Arrays.toString(numbers), x.badly(), due);
        Check.due("the row stays", x.count(7), numbers.length);
        Check.due("again", x.badly(), due);
    }

    private static void badly() {
        badly(63);
        badly(63, 0, 0);
        badly(43, 5, 5);
        badly(43, 5, 5, 7, 7, 0, 0);
        badly(20, 5, 10);
        badly(20, 0, 0, 5, 10, 49, 98);
        badly(0, 5, 10, 3, 3);
        badly(0, 10, 5);
        badly(0, 5, 11);
        badly(0, 0, 1);
        badly(-3, 5);
        badly(-3, 5, 5, 5);
    }

    private static void judge(MuckForFour x, int due, int... numbers) {
        Check.row(x, numbers);
        Check.due("judge() of " + java.util.Arrays.toString(numbers), x.judge(), due);
        Check.due("the row has none then", x.count(7), 0);
    }

    private static void judged() {
        MuckForFour x = Check.told("yl100240;");
        judge(x, -9);
        judge(x, -9, 9);
        judge(x, -9, 9, 0, 0, 0, 9);
        judge(x, 0, 0);
        judge(x, 3, 9, 0, 0, 1);
        judge(x, 1, 9, 9, 0, 0);
        judge(x, 5, 9, 0, 0, 0, 9, 9);
        judge(x, 2, 9, 0, 99, 0, 9, 9);
        x.go(9);
        judge(x, -9, 0, 0, 0, 9);
    }

    private static void beyond() {
        judge(new MuckForFour(), 0, 3);
        MuckForFour x = Check.told("yl100240;h409;x20020;");
        judge(x, -9, 9, 9, 0, 9, 9, 0, 9, 9, 0, 9, 9, 0, 9);
        judge(x, 13, 9, 9, 0, 9, 9, 0, 9, 9, 0, 9, 9, 0, 9, 9);
        judge(x, 13, 9, 9, 0, 9, 9, 0, 9, 9, 0, 9, 9, 0, 9, 0, 0);
    }

    private static void matesByNumbers() {
        MuckForFour x = Check.told("yl100240;yl100240;m3;u040;");
        judge(x, -9, 0, 1);
        judge(x, 1, 0, 0);
        MuckForFour y = Check.told("yl100240;yl100240;m3;u020;");
        judge(y, -9, 0, 9, 9);
    }
}
