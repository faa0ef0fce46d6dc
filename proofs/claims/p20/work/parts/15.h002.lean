def MQm (fr ap ba gr br la he td : Int32) (now : Nat → Int32) : Prop := MO fr ap ba gr now ∧ br = now 16 ∧ la = now 17 ∧ he = now 18 ∧ td = now 19
