theorem zz_wide : True := (fun _ => trivial) @Jvm.Stand.thenCaughtThrough
