theorem wide_name : True := by
  have h := @Jvm.Example.RecCall.texts
  trivial
