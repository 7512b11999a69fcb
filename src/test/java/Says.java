import java.lang.annotation.ElementType;
import java.lang.annotation.Retention;
import java.lang.annotation.RetentionPolicy;
import java.lang.annotation.Target;

/** The sentence of ../shared/DOC.md, or the piece of one, that a test method is about. */
@Retention(RetentionPolicy.RUNTIME)
@Target(ElementType.METHOD)
@interface Says {
    /** The number of the promise, or 0 for the part "Terms". */
    int promise();

    /** The words of the document, with single spaces. */
    String value();
}
