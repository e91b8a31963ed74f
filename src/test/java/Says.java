import java.lang.annotation.ElementType;
import java.lang.annotation.Retention;
import java.lang.annotation.RetentionPolicy;
import java.lang.annotation.Target;

/** The very words of the document that a test holds the class to. */
@Retention(RetentionPolicy.RUNTIME)
@Target(ElementType.METHOD)
@interface Says {
    int TERMS = 0;
    /** How an object is used, which the document says ahead of its face. */
    int USE = -1;

    /** The promise's number, or TERMS, or USE. */
    int promise() default TERMS;

    String words();
}
