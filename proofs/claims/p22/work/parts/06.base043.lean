def mF : List Bool → va_W → va_W
  | [], _ => []
  | _ :: _, [] => []
  | true :: ms, _ :: ws => mF ms ws
  | false :: ms, w :: ws => w :: mF ms ws
