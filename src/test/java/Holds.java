import java.lang.annotation.ElementType;
import java.lang.annotation.Retention;
import java.lang.annotation.RetentionPolicy;
import java.lang.annotation.Target;

/** Names the promise and the sentence of ../shared/DOC.md that a test of an edge holds. */
@Retention(RetentionPolicy.RUNTIME)
@Target(ElementType.METHOD)
@interface Holds {
    int promise();

    /** Word by word as the document has it, or a part of it. */
    String sentence();
}
