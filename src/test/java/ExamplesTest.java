/** The three examples of the document, call by call. */
public final class ExamplesTest {
    private ExamplesTest() { }

    private static void example1() {
        LinkTraining x = new LinkTraining();
        Check.same(2, "append", x.append(1818848875, 544437349, 1881157936, 544498032, 1931490098), 20);
        Check.same(2, "append", x.append(544633445, 1718820915, 997351796, 1696622112, 1885696617), 40);
        Check.same(2, "append", x.append(1868832817, 808460394, 1769239653, 1914713403, 1818324581), 60);
        Check.same(2, "append", x.append(543236211, 1801811744, 892346487, 1768191080, 540553264), 80);
        Check.same(2, "append", x.append(544633445, 1713385760, 1936486256, 1696608560, 997220724), 100);
        Check.same(2, "append", x.append(1952805486, 544219184, 825958432, 538976288, 538976288), 120);
        x.truncate(110);
        Check.same(4, "load", x.load(), 1);
        Check.same(25, "eye(0, 1, 0, 1)", x.eye(0, 1, 0, 1), 8);
        Check.same(29, "firstEdge(0, 5, 1)", x.firstEdge(0, 5, 1), 2);
        Check.refuses(29, "firstEdge(0, 0, 1)", x, IllegalStateException.class, y -> y.firstEdge(0, 0, 1));
        Check.same(47, "train", x.train(), 30);
        Check.same(53, "setting(0, 0)", x.setting(0, 0), 5);
        Check.same(38, "trainableBits", x.trainableBits(), 3);
    }

    private static void example2() {
        LinkTraining x = new LinkTraining();
        Check.same(2, "append", x.append(1818848875, 544437349, 1881157920, 1952542835, 540287094), 20);
        Check.same(2, "append", x.append(1919247987, 540097392, 1635021925, 1919819888, 540029234), 40);
        Check.same(2, "append", x.append(991961120, 538976288, 538976288, 538976288, 538976288), 60);
        x.truncate(41);
        Check.same(4, "load", x.load(), -4);
        Check.same(5, "errorCode", x.errorCode(), 1);
        Check.same(6, "errorPosition", x.errorPosition(), 37);
    }

    private static void example3() {
        LinkTraining x = new LinkTraining();
        Check.same(2, "append", x.append(1818848875, 544437349, 1881157936, 544498032, 1931491616), 20);
        Check.same(2, "append", x.append(1987208550, 1931489595, 1918989413, 543563888, 1701996911), 40);
        Check.same(2, "append", x.append(1679833401, 543844724, 1952805408, 809181216, 538976288), 60);
        x.truncate(54);
        Check.same(4, "load", x.load(), -4);
        Check.same(6, "errorPosition", x.errorPosition(), 42);
        Check.refuses(52, "trainedBit", x, IllegalStateException.class, LinkTraining::trainedBit);
    }

    public static void main(String[] args) {
        example1();
        example2();
        example3();
        Check.end(false);
    }
}
