theorem zz_wide : True := (fun _ => trivial) @Jvm.Stand.thenCaughtThrough
theorem zz_wide2 : True := (fun _ => trivial) @Jvm.Stand.caughtThrough
theorem zz_wide3 : True := (fun _ => trivial) @Jvm.Stand.catches_of_link
theorem zz_wide4 : True := (fun _ => trivial) @Jvm.Stand.vmThrowsMessageCaughtThrough
theorem zz_wide5 : True := (fun _ => trivial) @Jvm.Stand.vmThrowsNpeCaughtThrough
theorem zz_wide6 : True := (fun _ => trivial) @Jvm.Stand.outThrough
