import java.lang.annotation.Retention;
import java.lang.annotation.RetentionPolicy;

/** Says of a test which promise of the document it is for, and which boundary case of it. */
@Retention(RetentionPolicy.RUNTIME)
@interface Edge {
    int promise();

    String of();
}
