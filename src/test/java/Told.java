import java.lang.annotation.ElementType;
import java.lang.annotation.Retention;
import java.lang.annotation.RetentionPolicy;
import java.lang.annotation.Target;

/** The sentence of the document that a test is for, and the heading that it stands under. */
@Retention(RetentionPolicy.RUNTIME)
@Target(ElementType.METHOD)
@interface Told {
    String in();

    String says();
}
