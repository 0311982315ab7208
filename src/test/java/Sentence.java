import java.lang.annotation.ElementType;
import java.lang.annotation.Retention;
import java.lang.annotation.RetentionPolicy;
import java.lang.annotation.Target;

/** Names a test by the place in the document and the sentence, or the part of it, to which it holds the class. */
@Retention(RetentionPolicy.RUNTIME)
@Target(ElementType.METHOD)
@interface Sentence {
    /** Such as "Promise 2" or "Terms: Batch". */
    String of();

    String says();
}
