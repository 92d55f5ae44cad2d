import java.lang.annotation.ElementType;
import java.lang.annotation.Retention;
import java.lang.annotation.RetentionPolicy;
import java.lang.annotation.Target;

/** The words of the document that a case holds the class to; Edges looks them up, so that none is made up. */
@Retention(RetentionPolicy.RUNTIME)
@Target(ElementType.METHOD)
@interface Says {
    /** The promise's number; 0 for what stands outside the promises, such as the terms. */
    int promise() default 0;

    String value();
}
