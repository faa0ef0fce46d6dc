def MR (fr sd ap ba gr br la he td : Int32) (now : Nat → Int32) : Prop := MQm fr ap ba gr br la he td now ∧ LQ sd la he td
