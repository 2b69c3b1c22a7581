import java.lang.annotation.ElementType;
import java.lang.annotation.Retention;
import java.lang.annotation.RetentionPolicy;
import java.lang.annotation.Target;

/** Marks a test with the sentence of ../shared/DOC.md that it holds, in the document's words. */
@Retention(RetentionPolicy.RUNTIME)
@Target(ElementType.METHOD)
@interface Holds {
    /** The promises that rest on the sentence; the first one has it, if no section is named. */
    int[] promise();

    /** The heading of the section that has the sentence; none if the promise itself has it. */
    String section() default "";

    String sentence();
}
