import java.lang.annotation.Retention;
import java.lang.annotation.RetentionPolicy;

/** The words of ../shared/DOC.md that a test holds the class to: the heading they stand under, a colon, the words. */
@Retention(RetentionPolicy.RUNTIME)
@interface Says {
    String value();
}
