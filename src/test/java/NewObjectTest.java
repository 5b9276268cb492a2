import java.util.NoSuchElementException;

/** Promise 1. */
final class NewObjectTest {
    public static void main(String[] args) {
        Check check = new Check("NewObjectTest");
        FormDesk desk = new FormDesk();
        for (int part = 0; part < 3; part++) {
            check.same("form(0, " + part + ")", desk.form(0, part), 1);
        }
        check.refuses("form(1, 0)", NoSuchElementException.class, () -> desk.form(1, 0));
        for (int what = 0; what < 9; what++) {
            int w = what;
            check.refuses("reduced(" + w + ")", NoSuchElementException.class, () -> desk.reduced(w));
        }
        check.same("word()", desk.word(), 0);
        check.same("genera()", desk.genera(), 1);
        for (int i = 0; i < 10; i++) {
            check.is("ten times four letters fit", desk.put(0x41414141, 4));
        }
        check.same("values(0, 1, true)", desk.values(0, 1, true), 6);
        twoObjectsShareNothing(check);
        check.end();
    }

    private static void twoObjectsShareNothing(Check check) {
        FormDesk one = new FormDesk();
        FormDesk other = new FormDesk();
        one.discriminant(-23);
        one.reduce(3, 1, 2);
        one.put('B', 1);
        check.refuses("the other's form(1, 0)", NoSuchElementException.class, () -> other.form(1, 0));
        check.refuses("the other's reduced(0)", NoSuchElementException.class, () -> other.reduced(0));
        check.same("the other's word()", other.word(), 0);
        check.same("its own word()", one.word(), 1);
    }
}
