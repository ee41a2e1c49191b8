theorem use_wide (x y : Int32) : Jvm.Free.MCB.fmod x y = Jvm.Free.MCB.fmod x y := rfl
