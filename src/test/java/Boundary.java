import java.lang.annotation.ElementType;
import java.lang.annotation.Retention;
import java.lang.annotation.RetentionPolicy;
import java.lang.annotation.Target;

/** Names the sentence of the document that a test holds on both sides of the boundary it names. */
@Retention(RetentionPolicy.RUNTIME)
@Target(ElementType.METHOD)
@interface Boundary {
    int DESCRIPTION = 0;

    /** The number of the promise, or DESCRIPTION for what stands before the first promise. */
    int promise();

    /** The sentence, or the part of it that names the boundary, word for word. */
    String sentence();
}
