def mT : List Bool → va_W → va_W
  | [], _ => []
  | _ :: _, [] => []
  | true :: ms, w :: ws => w :: mT ms ws
  | false :: ms, _ :: ws => mT ms ws
